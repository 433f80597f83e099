/-! pure: the step that makes a time final -/
theorem gu_ix {α : Type} {f : Nat → Nat → Nat → α} {k g o x y : Nat} {v : α} (ho : o < 40) (hy : y < 40) : gs_u f k (40 * g + o) 0 v k (40 * x + y) 0 = if x = g ∧ y = o then v else f k (40 * x + y) 0 := by
  rw [gs_u_at]
  by_cases h : x = g ∧ y = o
  · rw [if_pos h, if_pos ⟨by omega, rfl⟩]
  · rw [if_neg h, if_neg (fun e => h (by have := e.1; omega))]
theorem gu_i4 {α : Type} {f : Nat → Nat → Nat → α} {k g o q x y z : Nat} {v : α} (ho : o < 40) (hy : y < 40) (hq : q < 4) (hz : z < 4) : gs_u f k (4 * (40 * g + o) + q) 0 v k (4 * (40 * x + y) + z) 0 = if x = g ∧ y = o ∧ z = q then v else f k (4 * (40 * x + y) + z) 0 := by
  rw [gs_u_at]
  by_cases h : x = g ∧ y = o ∧ z = q
  · rw [if_pos h, if_pos ⟨by omega, rfl⟩]
  · rw [if_neg h, if_neg (fun e => h (by have := e.1; omega))]
theorem gu_0 {α : Type} {f : Nat → Nat → Nat → α} {k i x : Nat} {v : α} : gs_u f k i 0 v k x 0 = if x = i then v else f k x 0 := by
  rw [gs_u_at]
  by_cases h : x = i
  · rw [if_pos h, if_pos ⟨h, rfl⟩]
  · rw [if_neg h, if_neg (fun e => h e.1)]
set_option maxHeartbeats 4000000 in
theorem jF_step {τ μ : gs_T} (J : jj_J τ μ) {g o : Nat} (hc : sc_mfc τ g o) : jj_J (gs_i (gs_i τ 10 g o (sc_mfv τ g o)) 7 g 0 (gs_mx (τ.2.1 7 g 0) (sc_mfv τ g o))) (sm_mf1 μ g o) := by
  have hn := jq_n J
  have hp := hc.1
  have h10 := hc.2.1
  have hal := hc.2.2
  have hgo := gw_p J.2.1.1 hp
  have hv := (jf_eq J hp).2 hal
  have hvi : (sc_mfv τ g o).toInt = max (τ.2.1 8 g o).toInt (τ.2.1 9 g o).toInt := ti_mx _ _
  have k8 := jq_8 J hp
  have k9 := jq_9 J hp
  have hal' := hal
  unfold sc_hal at hal'
  rw [jn_m1, jn_m1] at hal'
  rw [jn_m1] at h10
  have tv : ti_tm (sc_mfv τ g o) = sc_mfv τ g o := by rw [ti_tm, if_neg (by rw [jn_m1]; omega)]
  obtain ⟨τ', hT⟩ : ∃ t, t = (gs_i (gs_i τ 10 g o (sc_mfv τ g o)) 7 g 0 (gs_mx (τ.2.1 7 g 0) (sc_mfv τ g o))) := ⟨_, rfl⟩
  obtain ⟨μ', hM⟩ : ∃ t, t = (sm_mf1 μ g o) := ⟨_, rfl⟩
  rw [← hT, ← hM]
  have n0 : τ'.1 0 = τ.1 0 := by rw [hT]; simp (decide := true) only [gs_i, gs_n, gs_l, gs_u_ne, sm_mf1]
  have n1 : τ'.1 1 = τ.1 1 := by rw [hT]; simp (decide := true) only [gs_i, gs_n, gs_l, gs_u_ne, sm_mf1]
  have n2 : τ'.1 2 = τ.1 2 := by rw [hT]; simp (decide := true) only [gs_i, gs_n, gs_l, gs_u_ne, sm_mf1]
  have n3 : τ'.1 3 = τ.1 3 := by rw [hT]; simp (decide := true) only [gs_i, gs_n, gs_l, gs_u_ne, sm_mf1]
  have n4 : τ'.1 4 = τ.1 4 := by rw [hT]; simp (decide := true) only [gs_i, gs_n, gs_l, gs_u_ne, sm_mf1]
  have n5 : τ'.1 5 = τ.1 5 := by rw [hT]; simp (decide := true) only [gs_i, gs_n, gs_l, gs_u_ne, sm_mf1]
  have n6 : τ'.1 6 = τ.1 6 := by rw [hT]; simp (decide := true) only [gs_i, gs_n, gs_l, gs_u_ne, sm_mf1]
  have n7 : τ'.1 7 = τ.1 7 := by rw [hT]; simp (decide := true) only [gs_i, gs_n, gs_l, gs_u_ne, sm_mf1]
  have n8 : τ'.1 8 = τ.1 8 := by rw [hT]; simp (decide := true) only [gs_i, gs_n, gs_l, gs_u_ne, sm_mf1]
  have n9 : τ'.1 9 = τ.1 9 := by rw [hT]; simp (decide := true) only [gs_i, gs_n, gs_l, gs_u_ne, sm_mf1]
  have n12 : τ'.1 12 = τ.1 12 := by rw [hT]; simp (decide := true) only [gs_i, gs_n, gs_l, gs_u_ne, sm_mf1]
  have n13 : τ'.1 13 = τ.1 13 := by rw [hT]; simp (decide := true) only [gs_i, gs_n, gs_l, gs_u_ne, sm_mf1]
  have n14 : τ'.1 14 = τ.1 14 := by rw [hT]; simp (decide := true) only [gs_i, gs_n, gs_l, gs_u_ne, sm_mf1]
  have i0 : τ'.2.1 0 = τ.2.1 0 := by rw [hT]; simp (decide := true) only [gs_i, gs_n, gs_l, gs_u_ne, sm_mf1]
  have i1 : τ'.2.1 1 = τ.2.1 1 := by rw [hT]; simp (decide := true) only [gs_i, gs_n, gs_l, gs_u_ne, sm_mf1]
  have i2 : τ'.2.1 2 = τ.2.1 2 := by rw [hT]; simp (decide := true) only [gs_i, gs_n, gs_l, gs_u_ne, sm_mf1]
  have i3 : τ'.2.1 3 = τ.2.1 3 := by rw [hT]; simp (decide := true) only [gs_i, gs_n, gs_l, gs_u_ne, sm_mf1]
  have i4 : τ'.2.1 4 = τ.2.1 4 := by rw [hT]; simp (decide := true) only [gs_i, gs_n, gs_l, gs_u_ne, sm_mf1]
  have i5 : τ'.2.1 5 = τ.2.1 5 := by rw [hT]; simp (decide := true) only [gs_i, gs_n, gs_l, gs_u_ne, sm_mf1]
  have i6 : τ'.2.1 6 = τ.2.1 6 := by rw [hT]; simp (decide := true) only [gs_i, gs_n, gs_l, gs_u_ne, sm_mf1]
  have i8 : τ'.2.1 8 = τ.2.1 8 := by rw [hT]; simp (decide := true) only [gs_i, gs_n, gs_l, gs_u_ne, sm_mf1]
  have i9 : τ'.2.1 9 = τ.2.1 9 := by rw [hT]; simp (decide := true) only [gs_i, gs_n, gs_l, gs_u_ne, sm_mf1]
  have i11 : τ'.2.1 11 = τ.2.1 11 := by rw [hT]; simp (decide := true) only [gs_i, gs_n, gs_l, gs_u_ne, sm_mf1]
  have i12 : τ'.2.1 12 = τ.2.1 12 := by rw [hT]; simp (decide := true) only [gs_i, gs_n, gs_l, gs_u_ne, sm_mf1]
  have i13 : τ'.2.1 13 = τ.2.1 13 := by rw [hT]; simp (decide := true) only [gs_i, gs_n, gs_l, gs_u_ne, sm_mf1]
  have i14 : τ'.2.1 14 = τ.2.1 14 := by rw [hT]; simp (decide := true) only [gs_i, gs_n, gs_l, gs_u_ne, sm_mf1]
  have i15 : τ'.2.1 15 = τ.2.1 15 := by rw [hT]; simp (decide := true) only [gs_i, gs_n, gs_l, gs_u_ne, sm_mf1]
  have i16 : τ'.2.1 16 = τ.2.1 16 := by rw [hT]; simp (decide := true) only [gs_i, gs_n, gs_l, gs_u_ne, sm_mf1]
  have i17 : τ'.2.1 17 = τ.2.1 17 := by rw [hT]; simp (decide := true) only [gs_i, gs_n, gs_l, gs_u_ne, sm_mf1]
  have i18 : τ'.2.1 18 = τ.2.1 18 := by rw [hT]; simp (decide := true) only [gs_i, gs_n, gs_l, gs_u_ne, sm_mf1]
  have i19 : τ'.2.1 19 = τ.2.1 19 := by rw [hT]; simp (decide := true) only [gs_i, gs_n, gs_l, gs_u_ne, sm_mf1]
  have i20 : τ'.2.1 20 = τ.2.1 20 := by rw [hT]; simp (decide := true) only [gs_i, gs_n, gs_l, gs_u_ne, sm_mf1]
  have l0 : τ'.2.2 = τ.2.2 := by rw [hT]; simp (decide := true) only [gs_i, gs_n, gs_l, gs_u_ne, sm_mf1]
  have m31 : μ'.1 31 = μ.1 31 := by rw [hM]; simp (decide := true) only [gs_i, gs_n, gs_l, gs_u_ne, sm_mf1]
  have m100 : μ'.1 100 = μ.1 100 := by rw [hM]; simp (decide := true) only [gs_i, gs_n, gs_l, gs_u_ne, sm_mf1]
  have m104 : μ'.1 104 = μ.1 104 := by rw [hM]; simp (decide := true) only [gs_i, gs_n, gs_l, gs_u_ne, sm_mf1]
  have m105 : μ'.1 105 = μ.1 105 := by rw [hM]; simp (decide := true) only [gs_i, gs_n, gs_l, gs_u_ne, sm_mf1]
  have m107 : μ'.1 107 = μ.1 107 := by rw [hM]; simp (decide := true) only [gs_i, gs_n, gs_l, gs_u_ne, sm_mf1]
  have m108 : μ'.1 108 = μ.1 108 := by rw [hM]; simp (decide := true) only [gs_i, gs_n, gs_l, gs_u_ne, sm_mf1]
  have m123 : μ'.1 123 = μ.1 123 := by rw [hM]; simp (decide := true) only [gs_i, gs_n, gs_l, gs_u_ne, sm_mf1]
  have m124 : μ'.1 124 = μ.1 124 := by rw [hM]; simp (decide := true) only [gs_i, gs_n, gs_l, gs_u_ne, sm_mf1]
  have m125 : μ'.1 125 = μ.1 125 := by rw [hM]; simp (decide := true) only [gs_i, gs_n, gs_l, gs_u_ne, sm_mf1]
  have m127 : μ'.1 127 = μ.1 127 := by rw [hM]; simp (decide := true) only [gs_i, gs_n, gs_l, gs_u_ne, sm_mf1]
  have m128 : μ'.1 128 = μ.1 128 := by rw [hM]; simp (decide := true) only [gs_i, gs_n, gs_l, gs_u_ne, sm_mf1]
  have m129 : μ'.1 129 = μ.1 129 := by rw [hM]; simp (decide := true) only [gs_i, gs_n, gs_l, gs_u_ne, sm_mf1]
  have k102 : μ'.2.1 102 = μ.2.1 102 := by rw [hM]; simp (decide := true) only [gs_i, gs_n, gs_l, gs_u_ne, sm_mf1]
  have k103 : μ'.2.1 103 = μ.2.1 103 := by rw [hM]; simp (decide := true) only [gs_i, gs_n, gs_l, gs_u_ne, sm_mf1]
  have k106 : μ'.2.1 106 = μ.2.1 106 := by rw [hM]; simp (decide := true) only [gs_i, gs_n, gs_l, gs_u_ne, sm_mf1]
  have k109 : μ'.2.1 109 = μ.2.1 109 := by rw [hM]; simp (decide := true) only [gs_i, gs_n, gs_l, gs_u_ne, sm_mf1]
  have k110 : μ'.2.1 110 = μ.2.1 110 := by rw [hM]; simp (decide := true) only [gs_i, gs_n, gs_l, gs_u_ne, sm_mf1]
  have k111 : μ'.2.1 111 = μ.2.1 111 := by rw [hM]; simp (decide := true) only [gs_i, gs_n, gs_l, gs_u_ne, sm_mf1]
  have k112 : μ'.2.1 112 = μ.2.1 112 := by rw [hM]; simp (decide := true) only [gs_i, gs_n, gs_l, gs_u_ne, sm_mf1]
  have k113 : μ'.2.1 113 = μ.2.1 113 := by rw [hM]; simp (decide := true) only [gs_i, gs_n, gs_l, gs_u_ne, sm_mf1]
  have k114 : μ'.2.1 114 = μ.2.1 114 := by rw [hM]; simp (decide := true) only [gs_i, gs_n, gs_l, gs_u_ne, sm_mf1]
  have k116 : μ'.2.1 116 = μ.2.1 116 := by rw [hM]; simp (decide := true) only [gs_i, gs_n, gs_l, gs_u_ne, sm_mf1]
  have k117 : μ'.2.1 117 = μ.2.1 117 := by rw [hM]; simp (decide := true) only [gs_i, gs_n, gs_l, gs_u_ne, sm_mf1]
  have k118 : μ'.2.1 118 = μ.2.1 118 := by rw [hM]; simp (decide := true) only [gs_i, gs_n, gs_l, gs_u_ne, sm_mf1]
  have k119 : μ'.2.1 119 = μ.2.1 119 := by rw [hM]; simp (decide := true) only [gs_i, gs_n, gs_l, gs_u_ne, sm_mf1]
  have k120 : μ'.2.1 120 = μ.2.1 120 := by rw [hM]; simp (decide := true) only [gs_i, gs_n, gs_l, gs_u_ne, sm_mf1]
  have k121 : μ'.2.1 121 = μ.2.1 121 := by rw [hM]; simp (decide := true) only [gs_i, gs_n, gs_l, gs_u_ne, sm_mf1]
  have k122 : μ'.2.1 122 = μ.2.1 122 := by rw [hM]; simp (decide := true) only [gs_i, gs_n, gs_l, gs_u_ne, sm_mf1]
  have k126 : μ'.2.1 126 = μ.2.1 126 := by rw [hM]; simp (decide := true) only [gs_i, gs_n, gs_l, gs_u_ne, sm_mf1]
  have k130 : μ'.2.1 130 = μ.2.1 130 := by rw [hM]; simp (decide := true) only [gs_i, gs_n, gs_l, gs_u_ne, sm_mf1]
  have k131 : μ'.2.1 131 = μ.2.1 131 := by rw [hM]; simp (decide := true) only [gs_i, gs_n, gs_l, gs_u_ne, sm_mf1]
  have k132 : μ'.2.1 132 = μ.2.1 132 := by rw [hM]; simp (decide := true) only [gs_i, gs_n, gs_l, gs_u_ne, sm_mf1]
  have k133 : μ'.2.1 133 = μ.2.1 133 := by rw [hM]; simp (decide := true) only [gs_i, gs_n, gs_l, gs_u_ne, sm_mf1]
  have e7 : ∀ x, τ'.2.1 7 x 0 = if x = g then gs_mx (τ.2.1 7 g 0) (sc_mfv τ g o) else τ.2.1 7 x 0 := fun x => by rw [hT]; exact gu_0
  have e10 : ∀ x y, τ'.2.1 10 x y = if x = g ∧ y = o then sc_mfv τ g o else τ.2.1 10 x y := fun x y => by rw [hT]; simp (decide := true) only [gs_i, gs_u_ne, gs_u_at]
  have k101 : ∀ x, μ'.2.1 101 x 0 = if x = g then gs_mx (μ.2.1 101 g 0) (sc_mfv τ g o) else μ.2.1 101 x 0 := fun x => by rw [hM, sm_mf1, hv, ti_mg]; exact gu_0
  have k115 : ∀ x y, y < 40 → μ'.2.1 115 (40 * x + y) 0 = if x = g ∧ y = o then sc_mfv τ g o else μ.2.1 115 (40 * x + y) 0 := fun x y hy => by rw [hM, sm_mf1, hv]; simp (decide := true) only [gs_i, gs_u_ne]; exact gu_ix (by omega) hy
  generalize sc_mfv τ g o = v at *
  obtain ⟨⟨kA, kO, kG, kV, kT, kP, kZ, kM⟩, ⟨W, S, T, L, R, Wk, A, F⟩, V, G⟩ := J
  have nrow : ∀ x k p, x < τ.1 0 0 0 → k < τ.1 3 x 0 → τ.1 5 x k = p + 1 → ¬ (x = g ∧ p = o) := fun x k p hx hk hp2 e => ((R x hx).1 k p hk hp2).2 (by rw [e.1, e.2]; exact h10)
  have elt : ∀ x y, (sc_lt τ' x y).toInt = if x = g ∧ y = o then v.toInt else (sc_lt τ x y).toInt := fun x y => by
    unfold sc_lt
    rw [e10, i8]
    by_cases hxy : x = g ∧ y = o
    · rw [if_pos hxy, if_pos hxy, if_neg (by rw [jn_m1]; omega)]
    · rw [if_neg hxy, if_neg hxy]
  have slt : (sc_lt τ g o).toInt = (τ.2.1 8 g o).toInt := by rw [sc_lt, if_pos (by rw [jn_m1]; exact h10)]
  refine ⟨⟨?_, ?_, ?_, ?_, ?_, ?_, ?_, ?_⟩, ⟨?_, ?_, ?_, ?_, ?_, ?_, ?_, ?_⟩, V, ?_⟩
  · refine ⟨?_, ?_, ?_, ?_, ?_, ?_⟩
    · rw [m100, n0]; exact kA.1
    · rw [m104, n1]; exact kA.2.1
    · rw [m125, n2]; exact kA.2.2.1
    · rw [k133, i5]; exact kA.2.2.2.1
    · rw [hM]; exact kA.2.2.2.2.1
    · rw [m31]; exact kA.2.2.2.2.2
  · exact jj_O_fr n1 n12 n13 n14 i0 i1 i2 i3 i4 m105 m107 m108 k106 k109 k110 k111 k112 kO
  · intro x hx
    rw [n0] at hx
    have h9 := kG x hx
    rw [e7, k101, i6, k102]
    by_cases hxg : x = g
    · rw [if_pos hxg, if_pos hxg, ← hxg, h9.1]; exact ⟨rfl, h9.2⟩
    · rw [if_neg hxg, if_neg hxg]; exact h9
  · exact jj_V_fr i19 i20 k103 k113 kV
  · exact jj_T_fr n0 n3 n5 m123 m124 kT
  · intro x y hxy
    rw [n6] at hxy
    have h9 := kP x y hxy
    have hy := (gw_p W hxy).2
    rw [k114, k119, k115 x y (by omega), k116, k118, k117, k120, k121, k122, n7, n13, n0, i8, i9, e10, i11, i12, i13, i14, i15]
    refine ⟨h9.1, h9.2.1, ?_, h9.2.2.2⟩
    by_cases hx : x = g ∧ y = o
    · rw [if_pos hx, if_pos hx, tv]
    · rw [if_neg hx, if_neg hx]; exact h9.2.2.1
  · intro x y hx hy hxy
    rw [n6] at hxy
    rw [n0] at hx
    have h9 := kZ x y hx hy hxy
    rw [k114, k119, k115 x y hy, k116, k118, k117, k120, if_neg (fun e => hxy (by rw [e.1, e.2]; exact hp))]
    exact h9
  · exact jj_M_fr n0 n2 n7 n8 n9 n13 i16 i17 i18 m127 m128 m129 k126 k130 k131 k132 kM
  · rw [hT]
    exact W
  · exact pp_S_fr n0 n1 n6 n7 n13 n14 i0 S
  · obtain ⟨t1, t2, t3, t4, t5⟩ := T
    have tg := t5 g o hp
    have t7 := t2 g
    have hv9 : v.toInt ≤ (τ.2.1 5 0 0).toInt := by
      rcases tg.2.1 with z | z
      · omega
      · rcases js_two W S hp with w | ⟨g2, w1, w2, w3, w4⟩
        · omega
        · have t8 := (t5 g2 o w3).1
          have t72 := t2 g2
          rw [show τ.1 7 g o - 1 = g2 by omega] at z
          omega
    refine ⟨by rw [i5]; exact t1, fun x => ?_, fun c => by rw [i20, i5]; exact t3 c, fun y hy => by rw [i2, i5]; rw [n1] at hy; exact t4 y hy, fun x y hxy => ?_⟩
    · rw [e7, i5]
      by_cases hx : x = g
      · rw [if_pos hx, ti_mx]; omega
      · rw [if_neg hx]; exact t2 x
    · rw [n6] at hxy
      have h9 := t5 x y hxy
      have hge : (τ.2.1 7 x 0).toInt ≤ (τ'.2.1 7 x 0).toInt := by
        rw [e7]
        by_cases hx : x = g
        · rw [if_pos hx, ti_mx, hx]; omega
        · rw [if_neg hx]; exact Int.le_refl _
      rw [i8, i9, i2, n7, e10]
      refine ⟨by omega, h9.2.1, ?_⟩
      by_cases hx : x = g ∧ y = o
      · rw [if_pos hx, e7, if_pos hx.1, ti_mx, hx.1, hx.2]
        right
        refine ⟨hal'.1, hal'.2, hvi, by omega⟩
      · rw [if_neg hx]
        rcases h9.2.2 with z | z
        · exact Or.inl z
        · exact Or.inr ⟨z.1, z.2.1, z.2.2.1, by omega⟩
  · exact pp_L_fr n2 n7 n8 n9 i8 i16 i18 L
  · intro x hx
    rw [n0] at hx
    obtain ⟨r1, r2, r3, r4, r5⟩ := R x hx
    rw [n3, n5, n6, i8, i11]
    refine ⟨fun k p hk hp2 => ?_, r2, fun j k p q hj hk hp2 hq => ?_, fun k p q hk hp2 hq h8 h11 => ?_, r5⟩
    · rw [e10, if_neg (nrow x k p hx hk hp2)]; exact r1 k p hk hp2
    · rw [e10, if_neg (nrow x j p hx (by omega) hp2), e10, if_neg (nrow x k q hx hk hq)]; exact r3 j k p q hj hk hp2 hq
    · rw [e10, if_neg (nrow x k p hx hk hp2), elt]
      have h9 := r4 k p q hk hp2 hq h8 h11
      by_cases hx2 : x = g ∧ q = o
      · rw [if_pos hx2]
        rw [hx2.1, hx2.2, slt] at h9
        rw [hx2.1, hx2.2]
        unfold pp_b at h9 ⊢
        omega
      · rw [if_neg hx2]; exact h9
  · exact pp_W_fr n0 n3 n4 n5 n6 i11 i12 i15 Wk
  · obtain ⟨a1, a2⟩ := A
    have nans : τ.2.1 3 o 0 = 1 → False := fun z => by
      have h9 := (a1 o hgo.2).1
      rcases h9 with h9 | h9
      · rw [h9] at z; exact absurd z (by decide)
      · obtain ⟨k, hk1, hk2, hk3⟩ := (h9.2 g hp).1
        exact nrow g k o hgo.1 hk2 hk3 ⟨rfl, rfl⟩
    unfold pp_A pp_k
    refine ⟨fun y hy => ?_, fun y p hy hpy hf => ?_⟩
    · rw [n1] at hy
      have h9 := a1 y hy
      rw [i3, n6, n3, n4, n5, i15, i20, n12]
      refine ⟨?_, h9.2⟩
      rcases h9.1 with z | z
      · exact Or.inl z
      · refine Or.inr ⟨z.1, fun x hx => ⟨(z.2 x hx).1, ?_⟩⟩
        rw [e10, if_neg (fun e => nans (by rw [← e.2]; exact z.1))]
        exact (z.2 x hx).2
    · rw [n1] at hy
      have hf : sc_fw τ y p := by unfold sc_fw at hf ⊢; rw [l0] at hf; exact hf
      have h9 := a2 y p hy hpy hf
      rw [i3, n6, i2]
      refine ⟨h9.1, fun x hx => ?_⟩
      rw [e10, if_neg (fun e => nans (by rw [← e.2]; exact h9.1))]
      exact h9.2 x hx
  · exact pp_F_fr n1 n2 n6 i8 i12 F
  · exact pp_G_fr n0 n1 n2 n3 n4 n5 n6 n7 n8 n9 n13 n14 i0 i1 i3 i4 i12 i13 i14 i16 i18 i19 G
