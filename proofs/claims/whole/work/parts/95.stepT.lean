/-! pure: the step that takes -/
set_option maxHeartbeats 4000000 in
theorem jT_step {τ μ : gs_T} (J : jj_J τ μ) {g e : Nat} (hp : τ.1 6 g e = 1) (h8 : ¬ (τ.2.1 8 g e).toInt = -1) (h11 : τ.2.1 11 g e = 0) (h10 : ¬ (τ.2.1 10 g e).toInt = -1) (hmin : ∀ y, τ.1 6 g y = 1 → ¬ (τ.2.1 8 g y).toInt = -1 → τ.2.1 11 g y = 0 → ¬ y = e → pp_b (sc_lt τ g e).toInt e (sc_lt τ g y).toInt y) : jj_J (sc_tk1 τ g (τ.1 3 g 0) e) (sm_tk1 μ g e) := by
  have hn := jq_n J
  have hgo := gw_p J.2.1.1 hp
  have h01 : ¬ (0 : Int32) = 1 := by decide
  have k40 : τ.1 3 g 0 < 40 := by
    rw [(J.2.1.2.2.2.2.1 g hgo.1).2.2.2.2]
    exact ti_cn_lt (j := e) (by omega) (fun z => h01 (by rw [← z.2, h11]))
  have m3 : μ.1 123 g 0 = τ.1 3 g 0 := (J.1.2.2.2.2.1 g hgo.1).1
  have slt : (sc_lt τ g e).toInt = (τ.2.1 10 g e).toInt := by rw [sc_lt, if_neg (by rw [jn_m1]; exact h10)]
  obtain ⟨τ', hT⟩ : ∃ t, t = (sc_tk1 τ g (τ.1 3 g 0) e) := ⟨_, rfl⟩
  obtain ⟨μ', hM⟩ : ∃ t, t = (sm_tk1 μ g e) := ⟨_, rfl⟩
  rw [← hT, ← hM]
  have n0 : τ'.1 0 = τ.1 0 := by rw [hT]; simp (decide := true) only [gs_i, gs_n, gs_l, gs_u_ne, sc_tk1, sm_tk1]
  have n1 : τ'.1 1 = τ.1 1 := by rw [hT]; simp (decide := true) only [gs_i, gs_n, gs_l, gs_u_ne, sc_tk1, sm_tk1]
  have n2 : τ'.1 2 = τ.1 2 := by rw [hT]; simp (decide := true) only [gs_i, gs_n, gs_l, gs_u_ne, sc_tk1, sm_tk1]
  have n4 : τ'.1 4 = τ.1 4 := by rw [hT]; simp (decide := true) only [gs_i, gs_n, gs_l, gs_u_ne, sc_tk1, sm_tk1]
  have n6 : τ'.1 6 = τ.1 6 := by rw [hT]; simp (decide := true) only [gs_i, gs_n, gs_l, gs_u_ne, sc_tk1, sm_tk1]
  have n7 : τ'.1 7 = τ.1 7 := by rw [hT]; simp (decide := true) only [gs_i, gs_n, gs_l, gs_u_ne, sc_tk1, sm_tk1]
  have n8 : τ'.1 8 = τ.1 8 := by rw [hT]; simp (decide := true) only [gs_i, gs_n, gs_l, gs_u_ne, sc_tk1, sm_tk1]
  have n9 : τ'.1 9 = τ.1 9 := by rw [hT]; simp (decide := true) only [gs_i, gs_n, gs_l, gs_u_ne, sc_tk1, sm_tk1]
  have n12 : τ'.1 12 = τ.1 12 := by rw [hT]; simp (decide := true) only [gs_i, gs_n, gs_l, gs_u_ne, sc_tk1, sm_tk1]
  have n13 : τ'.1 13 = τ.1 13 := by rw [hT]; simp (decide := true) only [gs_i, gs_n, gs_l, gs_u_ne, sc_tk1, sm_tk1]
  have n14 : τ'.1 14 = τ.1 14 := by rw [hT]; simp (decide := true) only [gs_i, gs_n, gs_l, gs_u_ne, sc_tk1, sm_tk1]
  have i0 : τ'.2.1 0 = τ.2.1 0 := by rw [hT]; simp (decide := true) only [gs_i, gs_n, gs_l, gs_u_ne, sc_tk1, sm_tk1]
  have i1 : τ'.2.1 1 = τ.2.1 1 := by rw [hT]; simp (decide := true) only [gs_i, gs_n, gs_l, gs_u_ne, sc_tk1, sm_tk1]
  have i2 : τ'.2.1 2 = τ.2.1 2 := by rw [hT]; simp (decide := true) only [gs_i, gs_n, gs_l, gs_u_ne, sc_tk1, sm_tk1]
  have i3 : τ'.2.1 3 = τ.2.1 3 := by rw [hT]; simp (decide := true) only [gs_i, gs_n, gs_l, gs_u_ne, sc_tk1, sm_tk1]
  have i4 : τ'.2.1 4 = τ.2.1 4 := by rw [hT]; simp (decide := true) only [gs_i, gs_n, gs_l, gs_u_ne, sc_tk1, sm_tk1]
  have i5 : τ'.2.1 5 = τ.2.1 5 := by rw [hT]; simp (decide := true) only [gs_i, gs_n, gs_l, gs_u_ne, sc_tk1, sm_tk1]
  have i6 : τ'.2.1 6 = τ.2.1 6 := by rw [hT]; simp (decide := true) only [gs_i, gs_n, gs_l, gs_u_ne, sc_tk1, sm_tk1]
  have i7 : τ'.2.1 7 = τ.2.1 7 := by rw [hT]; simp (decide := true) only [gs_i, gs_n, gs_l, gs_u_ne, sc_tk1, sm_tk1]
  have i8 : τ'.2.1 8 = τ.2.1 8 := by rw [hT]; simp (decide := true) only [gs_i, gs_n, gs_l, gs_u_ne, sc_tk1, sm_tk1]
  have i9 : τ'.2.1 9 = τ.2.1 9 := by rw [hT]; simp (decide := true) only [gs_i, gs_n, gs_l, gs_u_ne, sc_tk1, sm_tk1]
  have i10 : τ'.2.1 10 = τ.2.1 10 := by rw [hT]; simp (decide := true) only [gs_i, gs_n, gs_l, gs_u_ne, sc_tk1, sm_tk1]
  have i12 : τ'.2.1 12 = τ.2.1 12 := by rw [hT]; simp (decide := true) only [gs_i, gs_n, gs_l, gs_u_ne, sc_tk1, sm_tk1]
  have i13 : τ'.2.1 13 = τ.2.1 13 := by rw [hT]; simp (decide := true) only [gs_i, gs_n, gs_l, gs_u_ne, sc_tk1, sm_tk1]
  have i14 : τ'.2.1 14 = τ.2.1 14 := by rw [hT]; simp (decide := true) only [gs_i, gs_n, gs_l, gs_u_ne, sc_tk1, sm_tk1]
  have i15 : τ'.2.1 15 = τ.2.1 15 := by rw [hT]; simp (decide := true) only [gs_i, gs_n, gs_l, gs_u_ne, sc_tk1, sm_tk1]
  have i16 : τ'.2.1 16 = τ.2.1 16 := by rw [hT]; simp (decide := true) only [gs_i, gs_n, gs_l, gs_u_ne, sc_tk1, sm_tk1]
  have i17 : τ'.2.1 17 = τ.2.1 17 := by rw [hT]; simp (decide := true) only [gs_i, gs_n, gs_l, gs_u_ne, sc_tk1, sm_tk1]
  have i18 : τ'.2.1 18 = τ.2.1 18 := by rw [hT]; simp (decide := true) only [gs_i, gs_n, gs_l, gs_u_ne, sc_tk1, sm_tk1]
  have i19 : τ'.2.1 19 = τ.2.1 19 := by rw [hT]; simp (decide := true) only [gs_i, gs_n, gs_l, gs_u_ne, sc_tk1, sm_tk1]
  have i20 : τ'.2.1 20 = τ.2.1 20 := by rw [hT]; simp (decide := true) only [gs_i, gs_n, gs_l, gs_u_ne, sc_tk1, sm_tk1]
  have l0 : τ'.2.2 = τ.2.2 := by rw [hT]; simp (decide := true) only [gs_i, gs_n, gs_l, gs_u_ne, sc_tk1, sm_tk1]
  have m31 : μ'.1 31 = μ.1 31 := by rw [hM]; simp (decide := true) only [gs_i, gs_n, gs_l, gs_u_ne, sc_tk1, sm_tk1]
  have m100 : μ'.1 100 = μ.1 100 := by rw [hM]; simp (decide := true) only [gs_i, gs_n, gs_l, gs_u_ne, sc_tk1, sm_tk1]
  have m104 : μ'.1 104 = μ.1 104 := by rw [hM]; simp (decide := true) only [gs_i, gs_n, gs_l, gs_u_ne, sc_tk1, sm_tk1]
  have m105 : μ'.1 105 = μ.1 105 := by rw [hM]; simp (decide := true) only [gs_i, gs_n, gs_l, gs_u_ne, sc_tk1, sm_tk1]
  have m107 : μ'.1 107 = μ.1 107 := by rw [hM]; simp (decide := true) only [gs_i, gs_n, gs_l, gs_u_ne, sc_tk1, sm_tk1]
  have m108 : μ'.1 108 = μ.1 108 := by rw [hM]; simp (decide := true) only [gs_i, gs_n, gs_l, gs_u_ne, sc_tk1, sm_tk1]
  have m125 : μ'.1 125 = μ.1 125 := by rw [hM]; simp (decide := true) only [gs_i, gs_n, gs_l, gs_u_ne, sc_tk1, sm_tk1]
  have m127 : μ'.1 127 = μ.1 127 := by rw [hM]; simp (decide := true) only [gs_i, gs_n, gs_l, gs_u_ne, sc_tk1, sm_tk1]
  have m128 : μ'.1 128 = μ.1 128 := by rw [hM]; simp (decide := true) only [gs_i, gs_n, gs_l, gs_u_ne, sc_tk1, sm_tk1]
  have m129 : μ'.1 129 = μ.1 129 := by rw [hM]; simp (decide := true) only [gs_i, gs_n, gs_l, gs_u_ne, sc_tk1, sm_tk1]
  have k101 : μ'.2.1 101 = μ.2.1 101 := by rw [hM]; simp (decide := true) only [gs_i, gs_n, gs_l, gs_u_ne, sc_tk1, sm_tk1]
  have k102 : μ'.2.1 102 = μ.2.1 102 := by rw [hM]; simp (decide := true) only [gs_i, gs_n, gs_l, gs_u_ne, sc_tk1, sm_tk1]
  have k103 : μ'.2.1 103 = μ.2.1 103 := by rw [hM]; simp (decide := true) only [gs_i, gs_n, gs_l, gs_u_ne, sc_tk1, sm_tk1]
  have k106 : μ'.2.1 106 = μ.2.1 106 := by rw [hM]; simp (decide := true) only [gs_i, gs_n, gs_l, gs_u_ne, sc_tk1, sm_tk1]
  have k109 : μ'.2.1 109 = μ.2.1 109 := by rw [hM]; simp (decide := true) only [gs_i, gs_n, gs_l, gs_u_ne, sc_tk1, sm_tk1]
  have k110 : μ'.2.1 110 = μ.2.1 110 := by rw [hM]; simp (decide := true) only [gs_i, gs_n, gs_l, gs_u_ne, sc_tk1, sm_tk1]
  have k111 : μ'.2.1 111 = μ.2.1 111 := by rw [hM]; simp (decide := true) only [gs_i, gs_n, gs_l, gs_u_ne, sc_tk1, sm_tk1]
  have k112 : μ'.2.1 112 = μ.2.1 112 := by rw [hM]; simp (decide := true) only [gs_i, gs_n, gs_l, gs_u_ne, sc_tk1, sm_tk1]
  have k113 : μ'.2.1 113 = μ.2.1 113 := by rw [hM]; simp (decide := true) only [gs_i, gs_n, gs_l, gs_u_ne, sc_tk1, sm_tk1]
  have k114 : μ'.2.1 114 = μ.2.1 114 := by rw [hM]; simp (decide := true) only [gs_i, gs_n, gs_l, gs_u_ne, sc_tk1, sm_tk1]
  have k115 : μ'.2.1 115 = μ.2.1 115 := by rw [hM]; simp (decide := true) only [gs_i, gs_n, gs_l, gs_u_ne, sc_tk1, sm_tk1]
  have k117 : μ'.2.1 117 = μ.2.1 117 := by rw [hM]; simp (decide := true) only [gs_i, gs_n, gs_l, gs_u_ne, sc_tk1, sm_tk1]
  have k118 : μ'.2.1 118 = μ.2.1 118 := by rw [hM]; simp (decide := true) only [gs_i, gs_n, gs_l, gs_u_ne, sc_tk1, sm_tk1]
  have k119 : μ'.2.1 119 = μ.2.1 119 := by rw [hM]; simp (decide := true) only [gs_i, gs_n, gs_l, gs_u_ne, sc_tk1, sm_tk1]
  have k120 : μ'.2.1 120 = μ.2.1 120 := by rw [hM]; simp (decide := true) only [gs_i, gs_n, gs_l, gs_u_ne, sc_tk1, sm_tk1]
  have k121 : μ'.2.1 121 = μ.2.1 121 := by rw [hM]; simp (decide := true) only [gs_i, gs_n, gs_l, gs_u_ne, sc_tk1, sm_tk1]
  have k122 : μ'.2.1 122 = μ.2.1 122 := by rw [hM]; simp (decide := true) only [gs_i, gs_n, gs_l, gs_u_ne, sc_tk1, sm_tk1]
  have k126 : μ'.2.1 126 = μ.2.1 126 := by rw [hM]; simp (decide := true) only [gs_i, gs_n, gs_l, gs_u_ne, sc_tk1, sm_tk1]
  have k130 : μ'.2.1 130 = μ.2.1 130 := by rw [hM]; simp (decide := true) only [gs_i, gs_n, gs_l, gs_u_ne, sc_tk1, sm_tk1]
  have k131 : μ'.2.1 131 = μ.2.1 131 := by rw [hM]; simp (decide := true) only [gs_i, gs_n, gs_l, gs_u_ne, sc_tk1, sm_tk1]
  have k132 : μ'.2.1 132 = μ.2.1 132 := by rw [hM]; simp (decide := true) only [gs_i, gs_n, gs_l, gs_u_ne, sc_tk1, sm_tk1]
  have k133 : μ'.2.1 133 = μ.2.1 133 := by rw [hM]; simp (decide := true) only [gs_i, gs_n, gs_l, gs_u_ne, sc_tk1, sm_tk1]
  have e3 : ∀ x, τ'.1 3 x 0 = if x = g then τ.1 3 g 0 + 1 else τ.1 3 x 0 := fun x => by rw [hT]; exact gu_0
  have e5 : ∀ x j, τ'.1 5 x j = if x = g ∧ j = τ.1 3 g 0 then e + 1 else τ.1 5 x j := fun x j => by rw [hT]; simp (decide := true) only [sc_tk1, gs_i, gs_n, gs_u_ne, gs_u_at]
  have e11 : ∀ x y, τ'.2.1 11 x y = if x = g ∧ y = e then 1 else τ.2.1 11 x y := fun x y => by rw [hT]; simp (decide := true) only [sc_tk1, gs_i, gs_n, gs_u_ne, gs_u_at]
  have q123 : ∀ x, μ'.1 123 x 0 = if x = g then τ.1 3 g 0 + 1 else μ.1 123 x 0 := fun x => by rw [hM, sm_tk1, m3]; exact gu_0
  have q124 : ∀ x j, j < 40 → μ'.1 124 (40 * x + j) 0 = if x = g ∧ j = τ.1 3 g 0 then e else μ.1 124 (40 * x + j) 0 := fun x j hj => by rw [hM, sm_tk1, m3]; simp (decide := true) only [gs_n, gs_u_ne]; exact gu_ix k40 hj
  have q116 : ∀ x y, y < 40 → μ'.2.1 116 (40 * x + y) 0 = if x = g ∧ y = e then 1 else μ.2.1 116 (40 * x + y) 0 := fun x y hy => by rw [hM]; simp (decide := true) only [sm_tk1, gs_i, gs_n]; exact gu_ix (by omega) hy
  obtain ⟨⟨kA, kO, kG, kV, kT, kP, kZ, kM⟩, ⟨W, S, T, L, R, Wk, A, F⟩, V, G⟩ := J
  have hrow : ∀ x j p, j < τ'.1 3 x 0 → τ'.1 5 x j = p + 1 → (x = g ∧ p = e ∧ j = τ.1 3 g 0) ∨ (j < τ.1 3 x 0 ∧ τ.1 5 x j = p + 1) := fun x j p hj hp2 => by
    rw [e3] at hj
    rw [e5] at hp2
    by_cases hx : x = g
    · rw [if_pos hx] at hj
      by_cases hjk : j = τ.1 3 g 0
      · rw [if_pos ⟨hx, hjk⟩] at hp2; exact Or.inl ⟨hx, by omega, hjk⟩
      · rw [if_neg (fun z => hjk z.2)] at hp2; exact Or.inr ⟨by rw [hx]; omega, hp2⟩
    · rw [if_neg hx] at hj; rw [if_neg (fun z => hx z.1)] at hp2; exact Or.inr ⟨hj, hp2⟩
  have hold : ∀ x j, j < τ.1 3 x 0 → j < τ'.1 3 x 0 ∧ τ'.1 5 x j = τ.1 5 x j := fun x j hj => by
    rw [e3, e5]
    by_cases hx : x = g
    · rw [if_pos hx, if_neg (fun z => by have := z.2; rw [hx] at hj; omega)]; rw [hx] at hj; exact ⟨by omega, rfl⟩
    · rw [if_neg hx, if_neg (fun z => hx z.1)]; exact ⟨hj, rfl⟩
  have hpk : ∀ x y j, pp_k τ x y j → pp_k τ' x y j := fun x y j h => ⟨by rw [n4]; exact h.1, (hold x j h.2.1).1, by rw [(hold x j h.2.1).2]; exact h.2.2⟩
  have hpk2 : ∀ x y j, ¬ (x = g ∧ y = e) → (pp_k τ' x y j ↔ pp_k τ x y j) := fun x y j hne => ⟨fun h => by
      rcases hrow x j y h.2.1 h.2.2 with z | z
      · exact absurd ⟨z.1, z.2.1⟩ hne
      · exact ⟨by rw [← n4]; exact h.1, z.1, z.2⟩, hpk x y j⟩
  have nrow : ∀ x j p, x < τ.1 0 0 0 → j < τ.1 3 x 0 → τ.1 5 x j = p + 1 → ¬ (x = g ∧ p = e) := fun x j p hx hj hp2 z => h01 (by rw [← ((R x hx).1 j p hj hp2).1, z.1, z.2]; exact h11.symm)
  have npk : ∀ y j, pp_k τ g y j → ¬ y = e := fun y j h z => nrow g j y hgo.1 h.2.1 h.2.2 ⟨rfl, z⟩
  have nans : ∀ y, y < τ.1 1 0 0 → τ.2.1 3 y 0 = 1 → ¬ y = e := fun y hy hz ze => by
    rcases (A.1 y hy).1 with h9 | h9
    · rw [h9] at hz; exact h01 hz
    · obtain ⟨j, hj⟩ := (h9.2 g (by rw [ze]; exact hp)).1
      exact npk y j hj ze
  have nsent : ∀ x y, τ.1 6 x y = 1 → τ.2.1 12 x y = 1 → ¬ (x = g ∧ y = e) := fun x y hxy hz ze => by
    rcases (Wk x (gw_p W hxy).1).2.2 y hxy with h9 | h9
    · rw [h9] at hz; exact h01 hz
    · obtain ⟨j, hj⟩ := h9.2
      rw [ze.1] at hj; exact npk y j hj ze.2
  refine ⟨⟨?_, ?_, ?_, ?_, ?_, ?_, ?_, ?_⟩, ⟨?_, ?_, ?_, ?_, ?_, ?_, ?_, ?_⟩, V, ?_⟩
  · refine ⟨by rw [m100, n0]; exact kA.1, by rw [m104, n1]; exact kA.2.1, by rw [m125, n2]; exact kA.2.2.1, by rw [k133, i5]; exact kA.2.2.2.1, ?_, by rw [m31]; exact kA.2.2.2.2.2⟩
    rw [hM]
    exact gv_n (gv_n (gv_i kA.2.2.2.2.1) (by decide) (show e < 40 by omega)) (by decide) (show _ + 1 ≤ 40 by rw [m3]; omega)
  · exact jj_O_fr n1 n12 n13 n14 i0 i1 i2 i3 i4 m105 m107 m108 k106 k109 k110 k111 k112 kO
  · exact jj_G_fr n0 i6 i7 k101 k102 kG
  · exact jj_V_fr i19 i20 k103 k113 kV
  · intro x hx
    rw [n0] at hx
    have h9 := kT x hx
    refine ⟨?_, fun j hj => ?_⟩
    · rw [q123, e3]
      by_cases hxg : x = g
      · rw [if_pos hxg, if_pos hxg]
      · rw [if_neg hxg, if_neg hxg]; exact h9.1
    · have hj4 : j < 40 := by
        rw [e3] at hj
        have := gw_tc W x
        by_cases hxg : x = g
        · rw [if_pos hxg] at hj; omega
        · rw [if_neg hxg] at hj; omega
      rw [e5, q124 x j hj4]
      by_cases hx2 : x = g ∧ j = τ.1 3 g 0
      · rw [if_pos hx2, if_pos hx2]
      · rw [if_neg hx2, if_neg hx2]
        refine h9.2 j ?_
        rw [e3] at hj
        by_cases hxg : x = g
        · rw [if_pos hxg] at hj; rw [hxg]; have : ¬ j = τ.1 3 g 0 := fun z => hx2 ⟨hxg, z⟩; omega
        · rw [if_neg hxg] at hj; exact hj
  · intro x y hxy
    rw [n6] at hxy
    have h9 := kP x y hxy
    have hy := (gw_p W hxy).2
    rw [k114, k119, k115, q116 x y (by omega), k118, k117, k120, k121, k122, n7, n13, n0, i8, i9, i10, e11, i12, i13, i14, i15]
    refine ⟨h9.1, h9.2.1, h9.2.2.1, ?_, h9.2.2.2.2⟩
    by_cases hx : x = g ∧ y = e
    · rw [if_pos hx, if_pos hx]
    · rw [if_neg hx, if_neg hx]; exact h9.2.2.2.1
  · intro x y hx hy hxy
    rw [n6] at hxy
    rw [n0] at hx
    have h9 := kZ x y hx hy hxy
    rw [k114, k119, q116 x y hy, k115, k118, k117, k120, if_neg (fun e => hxy (by rw [e.1, e.2]; exact hp))]
    exact h9
  · exact jj_M_fr n0 n2 n7 n8 n9 n13 i16 i17 i18 m127 m128 m129 k126 k130 k131 k132 kM
  · rw [hT]
    exact gw_tk1 W hp rfl k40
  · exact pp_S_fr n0 n1 n6 n7 n13 n14 i0 S
  · exact pp_T_fr n1 n6 n7 i2 i5 i7 i8 i9 i10 i20 T
  · exact pp_L_fr n2 n7 n8 n9 i8 i16 i18 L
  · intro x hx
    rw [n0] at hx
    obtain ⟨r1, r2, r3, r4, r5⟩ := R x hx
    refine ⟨fun j p hj hp2 => ?_, fun y hy => ?_, fun j k p q hj hk hp2 hq => ?_, fun j p q hj hp2 hq h8q h11q => ?_, ?_⟩
    · rw [e11, i10]
      rcases hrow x j p hj hp2 with z | z
      · rw [if_pos ⟨z.1, z.2.1⟩, z.1, z.2.1]; exact ⟨rfl, h10⟩
      · rw [if_neg (nrow x j p hx z.1 z.2)]; exact r1 j p z.1 z.2
    · rw [n6] at hy
      rw [e11]
      by_cases hx2 : x = g ∧ y = e
      · rw [if_pos hx2]; exact Or.inr ⟨rfl, τ.1 3 g 0, by rw [e3, if_pos hx2.1]; omega, by rw [e5, if_pos ⟨hx2.1, rfl⟩, hx2.2]⟩
      · rw [if_neg hx2]
        rcases r2 y hy with z | ⟨z, k, hk, hk2⟩
        · exact Or.inl z
        · exact Or.inr ⟨z, k, (hold x k hk).1, by rw [(hold x k hk).2]; exact hk2⟩
    · rw [i10]
      have hjx : j < τ'.1 3 x 0 := by omega
      rcases hrow x k q hk hq with z | z
      · rcases hrow x j p hjx hp2 with w | w
        · have := w.2.2; have := z.2.2; omega
        · have h9 := r4 j p e w.1 w.2 (by rw [z.1]; exact hp) (by rw [z.1]; exact h8) (by rw [z.1]; exact h11)
          rw [z.1, slt] at h9
          rw [z.1, z.2.1]; exact h9
      · rcases hrow x j p hjx hp2 with w | w
        · have h8 := z.1; rw [w.1] at h8; have := w.2.2; omega
        · exact r3 j k p q hj z.1 w.2 z.2
    · rw [n6] at hq
      rw [e11] at h11q
      rw [i8] at h8q
      have hlt : sc_lt τ' x q = sc_lt τ x q := by unfold sc_lt; rw [i8, i10]
      rw [i10, hlt]
      have hne : ¬ (x = g ∧ q = e) := fun z => by rw [if_pos z] at h11q; exact h01 h11q.symm
      rw [if_neg hne] at h11q
      rcases hrow x j p hj hp2 with z | z
      · have h9 := hmin q (by rw [← z.1]; exact hq) (by rw [← z.1]; exact h8q) (by rw [← z.1]; exact h11q) (fun w => hne ⟨z.1, w⟩)
        rw [slt] at h9
        rw [z.1, z.2.1]; exact h9
      · exact r4 j p q z.1 z.2 hq h8q h11q
    · rw [e3]
      by_cases hx2 : x = g
      · rw [if_pos hx2, hx2, ((R g hgo.1).2.2.2.2)]
        refine (ti_cn_add (j := e) (by omega) ?_ (fun z => h01 (by rw [← z.2, h11])) ?_).symm
        · rw [n6, e11, if_pos ⟨rfl, rfl⟩]; exact ⟨hp, rfl⟩
        · intro i hi hie
          rw [n6, e11, if_neg (fun z => hie z.2)]
      · rw [if_neg hx2, r5]
        refine ti_cn_congr (fun i hi => ?_)
        rw [n6, e11, if_neg (fun z => hx2 z.1)]
  · intro x hx
    rw [n0] at hx
    obtain ⟨w1, w2, w3⟩ := Wk x hx
    refine ⟨fun j p hj hp2 => ?_, fun y hy hz => ?_, fun y hy => ?_⟩
    · rw [i15, n4]
      rcases hrow x j p hj hp2 with z | z
      · have h9 := gw_wc W g
        rw [z.1, z.2.1, if_neg (by rw [z.2.2]; omega)]
        exact (Wk g hgo.1).2.1 e hp h11
      · exact w1 j p z.1 z.2
    · rw [n6] at hy
      rw [e11] at hz
      rw [i15]
      by_cases hx2 : x = g ∧ y = e
      · rw [if_pos hx2] at hz; exact absurd hz.symm h01
      · rw [if_neg hx2] at hz; exact w2 y hy hz
    · rw [n6] at hy
      rw [i12]
      rcases w3 y hy with z | ⟨z, k, hk⟩
      · exact Or.inl z
      · exact Or.inr ⟨z, k, hpk x y k hk⟩
  · obtain ⟨a1, a2⟩ := A
    refine ⟨fun y hy => ?_, fun y p hy hpy hf => ?_⟩
    · rw [n1] at hy
      have h9 := a1 y hy
      rw [i3, n6, i10, i15, i20, n12]
      refine ⟨?_, h9.2⟩
      rcases h9.1 with z | z
      · exact Or.inl z
      · refine Or.inr ⟨z.1, fun x hx => ⟨?_, (z.2 x hx).2⟩⟩
        obtain ⟨k, hk⟩ := (z.2 x hx).1
        exact ⟨k, hpk x y k hk⟩
    · rw [n1] at hy
      have hf : sc_fw τ y p := by unfold sc_fw at hf ⊢; rw [l0] at hf; exact hf
      have h9 := a2 y p hy hpy hf
      rw [i3, n6, i2, i10]
      exact h9
  · exact pp_F_fr n1 n2 n6 i8 i12 F
  · obtain ⟨g1, g2, g3, g4, g5⟩ := G
    have e1 : sc_rp τ' = sc_rp τ := by funext o u v; exact sc_rp_fr n13 n14 i0 i1
    have e2 : pp_e τ' = pp_e τ := by funext o k u v w; exact sc_pe_fr n13 n14 i0 i1
    have e4 : sc_ky τ' = sc_ky τ := by funext g o; exact sc_ky_fr n0 n13 n14
    refine ⟨by rw [n0]; exact g1, by rw [n0, n4, i19]; exact g2, fun y ja jb hy hz pa pb2 => ?_, fun x y hxy => ?_, fun i hi hk => ?_⟩
    · rw [n1] at hy
      rw [i3] at hz
      rw [n0, n13, hpk2 _ _ _ (fun z => nans y hy hz z.2)] at pa
      rw [n0, n14, hpk2 _ _ _ (fun z => nans y hy hz z.2)] at pb2
      unfold pp_i
      rw [n0, n13, n14, i4, e1, e2]
      exact g3 y ja jb hy hz pa pb2
    · rw [n6] at hxy
      rw [i13, n7, i12, i14, e4]
      rcases g4 x y hxy with z | ⟨z1, z2, z3, z4⟩
      · exact Or.inl z
      · refine Or.inr ⟨z1, z2, z3, fun j hj => z4 j ?_⟩
        obtain ⟨x2, hx2⟩ : ∃ x2, τ.1 7 x y = x2 + 1 := ⟨τ.1 7 x y - 1, by omega⟩
        have hq := gw_ot W hxy hx2
        rw [hx2, Nat.add_sub_cancel] at z3 hj ⊢
        exact (hpk2 _ _ _ (nsent x2 y hq z3)).mp hj
    · rw [n2] at hi
      rw [i16] at hk
      rw [n7, n8, n9, i12, i18, e4]
      have h9 := g5 i hi hk
      refine ⟨h9.1, fun j hj => h9.2 j ?_⟩
      have hmp := gw_mp W (gw_m W hi)
      have hjm := (kM i hi).2.2.2.2.2.2
      have h7 : ¬ τ.1 7 (τ.1 8 i 0) (τ.1 9 i 0) = 0 := by
        rcases hjm with z | z
        · have := z.1; rw [hk] at this; exact absurd this (by decide)
        · exact z.2.1
      obtain ⟨x2, hx2⟩ : ∃ x2, τ.1 7 (τ.1 8 i 0) (τ.1 9 i 0) = x2 + 1 := ⟨τ.1 7 (τ.1 8 i 0) (τ.1 9 i 0) - 1, by omega⟩
      have hq := gw_ot W hmp hx2
      rw [hx2, Nat.add_sub_cancel] at h9 hj
      exact (by rw [hx2, Nat.add_sub_cancel]; exact (hpk2 _ _ _ (nsent x2 _ hq h9.1)).mp hj)
