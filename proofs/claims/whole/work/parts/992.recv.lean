/-! pure: what receives -/
theorem cv_eq {τ μ : gs_T} (J : jj_J τ μ) {x y : Nat} (hp : τ.1 6 x y = 1) : sm_cv μ x y = sc_sv τ x y := by
  have hgo := gw_p J.2.1.1 hp
  unfold sm_cv sc_sv
  rw [(J.1.2.2.1 x hgo.1).1, (J.1.2.1.1 y hgo.2).2.2.2.2.2.1]
  have e : (if τ.2.1 7 x 0 ≤ τ.2.1 2 y 0 then τ.2.1 2 y 0 else τ.2.1 7 x 0) = gs_mx (τ.2.1 7 x 0) (τ.2.1 2 y 0) := by
    rw [ti_eq, ti_mx]
    split
    · rename_i h; rw [ti_le] at h; omega
    · rename_i h; rw [ti_le] at h; omega
  rw [e]
theorem gu_self {α : Type} {f : Nat → Nat → Nat → α} {k i j : Nat} {v : α} (h : v = f k i j) : gs_u f k i j v = f := by
  funext a b c
  unfold gs_u
  split
  · rename_i z; rw [z.1, z.2.1, z.2.2]; exact h
  · rfl
theorem gi_self {σ : gs_T} {f i j : Nat} {v : Int32} (h : v = σ.2.1 f i j) : gs_i σ f i j v = σ := by
  unfold gs_i
  rw [gu_self h]
set_option maxHeartbeats 4000000 in
theorem jR1_step {τ μ : gs_T} (J : jj_J τ μ) {x y q : Nat} {c : Int32} (hp : τ.1 6 x y = 1) (h7 : τ.1 7 x y = q + 1) (hc : c = τ.2.1 8 q y) (hc1 : ¬ c = -1) : jj_J (gs_i τ 9 x y c) (gs_i μ 119 (4 * (40 * x + y) + q) 0 c) := by
  have hn := jq_n J
  have hgo := gw_p J.2.1.1 hp
  have hgq := gw_p J.2.1.1 (gw_ot J.2.1.1 hp h7)
  have hqx : ¬ q = x := by
    rcases js_two J.2.1.1 J.2.1.2.1 hp with w | ⟨g2, w1, w2, w3, w4, _⟩
    · omega
    · omega
  have tv : ti_tm c = c := by rw [ti_tm, if_neg hc1]
  obtain ⟨τ', hT⟩ : ∃ t, t = (gs_i τ 9 x y c) := ⟨_, rfl⟩
  obtain ⟨μ', hM⟩ : ∃ t, t = (gs_i μ 119 (4 * (40 * x + y) + q) 0 c) := ⟨_, rfl⟩
  rw [← hT, ← hM]
  have n0 : τ'.1 0 = τ.1 0 := by rw [hT]; simp (decide := true) only [gs_i, gs_n, gs_l, gs_u_ne]
  have n1 : τ'.1 1 = τ.1 1 := by rw [hT]; simp (decide := true) only [gs_i, gs_n, gs_l, gs_u_ne]
  have n2 : τ'.1 2 = τ.1 2 := by rw [hT]; simp (decide := true) only [gs_i, gs_n, gs_l, gs_u_ne]
  have n3 : τ'.1 3 = τ.1 3 := by rw [hT]; simp (decide := true) only [gs_i, gs_n, gs_l, gs_u_ne]
  have n4 : τ'.1 4 = τ.1 4 := by rw [hT]; simp (decide := true) only [gs_i, gs_n, gs_l, gs_u_ne]
  have n5 : τ'.1 5 = τ.1 5 := by rw [hT]; simp (decide := true) only [gs_i, gs_n, gs_l, gs_u_ne]
  have n6 : τ'.1 6 = τ.1 6 := by rw [hT]; simp (decide := true) only [gs_i, gs_n, gs_l, gs_u_ne]
  have n7 : τ'.1 7 = τ.1 7 := by rw [hT]; simp (decide := true) only [gs_i, gs_n, gs_l, gs_u_ne]
  have n8 : τ'.1 8 = τ.1 8 := by rw [hT]; simp (decide := true) only [gs_i, gs_n, gs_l, gs_u_ne]
  have n9 : τ'.1 9 = τ.1 9 := by rw [hT]; simp (decide := true) only [gs_i, gs_n, gs_l, gs_u_ne]
  have n12 : τ'.1 12 = τ.1 12 := by rw [hT]; simp (decide := true) only [gs_i, gs_n, gs_l, gs_u_ne]
  have n13 : τ'.1 13 = τ.1 13 := by rw [hT]; simp (decide := true) only [gs_i, gs_n, gs_l, gs_u_ne]
  have n14 : τ'.1 14 = τ.1 14 := by rw [hT]; simp (decide := true) only [gs_i, gs_n, gs_l, gs_u_ne]
  have i0 : τ'.2.1 0 = τ.2.1 0 := by rw [hT]; simp (decide := true) only [gs_i, gs_n, gs_l, gs_u_ne]
  have i1 : τ'.2.1 1 = τ.2.1 1 := by rw [hT]; simp (decide := true) only [gs_i, gs_n, gs_l, gs_u_ne]
  have i2 : τ'.2.1 2 = τ.2.1 2 := by rw [hT]; simp (decide := true) only [gs_i, gs_n, gs_l, gs_u_ne]
  have i3 : τ'.2.1 3 = τ.2.1 3 := by rw [hT]; simp (decide := true) only [gs_i, gs_n, gs_l, gs_u_ne]
  have i4 : τ'.2.1 4 = τ.2.1 4 := by rw [hT]; simp (decide := true) only [gs_i, gs_n, gs_l, gs_u_ne]
  have i5 : τ'.2.1 5 = τ.2.1 5 := by rw [hT]; simp (decide := true) only [gs_i, gs_n, gs_l, gs_u_ne]
  have i6 : τ'.2.1 6 = τ.2.1 6 := by rw [hT]; simp (decide := true) only [gs_i, gs_n, gs_l, gs_u_ne]
  have i7 : τ'.2.1 7 = τ.2.1 7 := by rw [hT]; simp (decide := true) only [gs_i, gs_n, gs_l, gs_u_ne]
  have i8 : τ'.2.1 8 = τ.2.1 8 := by rw [hT]; simp (decide := true) only [gs_i, gs_n, gs_l, gs_u_ne]
  have i10 : τ'.2.1 10 = τ.2.1 10 := by rw [hT]; simp (decide := true) only [gs_i, gs_n, gs_l, gs_u_ne]
  have i11 : τ'.2.1 11 = τ.2.1 11 := by rw [hT]; simp (decide := true) only [gs_i, gs_n, gs_l, gs_u_ne]
  have i12 : τ'.2.1 12 = τ.2.1 12 := by rw [hT]; simp (decide := true) only [gs_i, gs_n, gs_l, gs_u_ne]
  have i13 : τ'.2.1 13 = τ.2.1 13 := by rw [hT]; simp (decide := true) only [gs_i, gs_n, gs_l, gs_u_ne]
  have i14 : τ'.2.1 14 = τ.2.1 14 := by rw [hT]; simp (decide := true) only [gs_i, gs_n, gs_l, gs_u_ne]
  have i15 : τ'.2.1 15 = τ.2.1 15 := by rw [hT]; simp (decide := true) only [gs_i, gs_n, gs_l, gs_u_ne]
  have i16 : τ'.2.1 16 = τ.2.1 16 := by rw [hT]; simp (decide := true) only [gs_i, gs_n, gs_l, gs_u_ne]
  have i17 : τ'.2.1 17 = τ.2.1 17 := by rw [hT]; simp (decide := true) only [gs_i, gs_n, gs_l, gs_u_ne]
  have i18 : τ'.2.1 18 = τ.2.1 18 := by rw [hT]; simp (decide := true) only [gs_i, gs_n, gs_l, gs_u_ne]
  have i19 : τ'.2.1 19 = τ.2.1 19 := by rw [hT]; simp (decide := true) only [gs_i, gs_n, gs_l, gs_u_ne]
  have i20 : τ'.2.1 20 = τ.2.1 20 := by rw [hT]; simp (decide := true) only [gs_i, gs_n, gs_l, gs_u_ne]
  have l0 : τ'.2.2 = τ.2.2 := by rw [hT]; simp (decide := true) only [gs_i, gs_n, gs_l, gs_u_ne]
  have m31 : μ'.1 31 = μ.1 31 := by rw [hM]; simp (decide := true) only [gs_i, gs_n, gs_l, gs_u_ne]
  have m100 : μ'.1 100 = μ.1 100 := by rw [hM]; simp (decide := true) only [gs_i, gs_n, gs_l, gs_u_ne]
  have m104 : μ'.1 104 = μ.1 104 := by rw [hM]; simp (decide := true) only [gs_i, gs_n, gs_l, gs_u_ne]
  have m105 : μ'.1 105 = μ.1 105 := by rw [hM]; simp (decide := true) only [gs_i, gs_n, gs_l, gs_u_ne]
  have m107 : μ'.1 107 = μ.1 107 := by rw [hM]; simp (decide := true) only [gs_i, gs_n, gs_l, gs_u_ne]
  have m108 : μ'.1 108 = μ.1 108 := by rw [hM]; simp (decide := true) only [gs_i, gs_n, gs_l, gs_u_ne]
  have m123 : μ'.1 123 = μ.1 123 := by rw [hM]; simp (decide := true) only [gs_i, gs_n, gs_l, gs_u_ne]
  have m124 : μ'.1 124 = μ.1 124 := by rw [hM]; simp (decide := true) only [gs_i, gs_n, gs_l, gs_u_ne]
  have m125 : μ'.1 125 = μ.1 125 := by rw [hM]; simp (decide := true) only [gs_i, gs_n, gs_l, gs_u_ne]
  have m127 : μ'.1 127 = μ.1 127 := by rw [hM]; simp (decide := true) only [gs_i, gs_n, gs_l, gs_u_ne]
  have m128 : μ'.1 128 = μ.1 128 := by rw [hM]; simp (decide := true) only [gs_i, gs_n, gs_l, gs_u_ne]
  have m129 : μ'.1 129 = μ.1 129 := by rw [hM]; simp (decide := true) only [gs_i, gs_n, gs_l, gs_u_ne]
  have k101 : μ'.2.1 101 = μ.2.1 101 := by rw [hM]; simp (decide := true) only [gs_i, gs_n, gs_l, gs_u_ne]
  have k102 : μ'.2.1 102 = μ.2.1 102 := by rw [hM]; simp (decide := true) only [gs_i, gs_n, gs_l, gs_u_ne]
  have k103 : μ'.2.1 103 = μ.2.1 103 := by rw [hM]; simp (decide := true) only [gs_i, gs_n, gs_l, gs_u_ne]
  have k106 : μ'.2.1 106 = μ.2.1 106 := by rw [hM]; simp (decide := true) only [gs_i, gs_n, gs_l, gs_u_ne]
  have k109 : μ'.2.1 109 = μ.2.1 109 := by rw [hM]; simp (decide := true) only [gs_i, gs_n, gs_l, gs_u_ne]
  have k110 : μ'.2.1 110 = μ.2.1 110 := by rw [hM]; simp (decide := true) only [gs_i, gs_n, gs_l, gs_u_ne]
  have k111 : μ'.2.1 111 = μ.2.1 111 := by rw [hM]; simp (decide := true) only [gs_i, gs_n, gs_l, gs_u_ne]
  have k112 : μ'.2.1 112 = μ.2.1 112 := by rw [hM]; simp (decide := true) only [gs_i, gs_n, gs_l, gs_u_ne]
  have k113 : μ'.2.1 113 = μ.2.1 113 := by rw [hM]; simp (decide := true) only [gs_i, gs_n, gs_l, gs_u_ne]
  have k114 : μ'.2.1 114 = μ.2.1 114 := by rw [hM]; simp (decide := true) only [gs_i, gs_n, gs_l, gs_u_ne]
  have k115 : μ'.2.1 115 = μ.2.1 115 := by rw [hM]; simp (decide := true) only [gs_i, gs_n, gs_l, gs_u_ne]
  have k116 : μ'.2.1 116 = μ.2.1 116 := by rw [hM]; simp (decide := true) only [gs_i, gs_n, gs_l, gs_u_ne]
  have k117 : μ'.2.1 117 = μ.2.1 117 := by rw [hM]; simp (decide := true) only [gs_i, gs_n, gs_l, gs_u_ne]
  have k118 : μ'.2.1 118 = μ.2.1 118 := by rw [hM]; simp (decide := true) only [gs_i, gs_n, gs_l, gs_u_ne]
  have k120 : μ'.2.1 120 = μ.2.1 120 := by rw [hM]; simp (decide := true) only [gs_i, gs_n, gs_l, gs_u_ne]
  have k121 : μ'.2.1 121 = μ.2.1 121 := by rw [hM]; simp (decide := true) only [gs_i, gs_n, gs_l, gs_u_ne]
  have k122 : μ'.2.1 122 = μ.2.1 122 := by rw [hM]; simp (decide := true) only [gs_i, gs_n, gs_l, gs_u_ne]
  have k126 : μ'.2.1 126 = μ.2.1 126 := by rw [hM]; simp (decide := true) only [gs_i, gs_n, gs_l, gs_u_ne]
  have k130 : μ'.2.1 130 = μ.2.1 130 := by rw [hM]; simp (decide := true) only [gs_i, gs_n, gs_l, gs_u_ne]
  have k131 : μ'.2.1 131 = μ.2.1 131 := by rw [hM]; simp (decide := true) only [gs_i, gs_n, gs_l, gs_u_ne]
  have k132 : μ'.2.1 132 = μ.2.1 132 := by rw [hM]; simp (decide := true) only [gs_i, gs_n, gs_l, gs_u_ne]
  have k133 : μ'.2.1 133 = μ.2.1 133 := by rw [hM]; simp (decide := true) only [gs_i, gs_n, gs_l, gs_u_ne]
  have e9 : ∀ a b, τ'.2.1 9 a b = if a = x ∧ b = y then c else τ.2.1 9 a b := fun a b => by rw [hT]; exact gs_u_at
  have q119 : ∀ a b z, b < 40 → z < 4 → μ'.2.1 119 (4 * (40 * a + b) + z) 0 = if a = x ∧ b = y ∧ z = q then c else μ.2.1 119 (4 * (40 * a + b) + z) 0 := fun a b z hb hz => by rw [hM]; exact gu_i4 (by omega) hb (by omega) hz
  obtain ⟨⟨kA, kO, kG, kV, kT, kP, kZ, kM⟩, ⟨W, S, T, L, R, Wk, A, F⟩, V, G⟩ := J
  refine ⟨⟨?_, ?_, ?_, ?_, ?_, ?_, ?_, ?_⟩, ⟨?_, ?_, ?_, ?_, ?_, ?_, ?_, ?_⟩, V, ?_⟩
  · refine ⟨?_, ?_, ?_, ?_, ?_, ?_⟩
    · rw [m100, n0]; exact kA.1
    · rw [m104, n1]; exact kA.2.1
    · rw [m125, n2]; exact kA.2.2.1
    · rw [k133, i5]; exact kA.2.2.2.1
    · rw [hM]; exact kA.2.2.2.2.1
    · rw [m31]; exact kA.2.2.2.2.2
  · exact jj_O_fr n1 n12 n13 n14 i0 i1 i2 i3 i4 m105 m107 m108 k106 k109 k110 k111 k112 kO
  · exact jj_G_fr n0 i6 i7 k101 k102 kG
  · exact jj_V_fr i19 i20 k103 k113 kV
  · exact jj_T_fr n0 n3 n5 m123 m124 kT
  · intro a b hab
    rw [n6] at hab
    have h9 := kP a b hab
    have hb := gw_p W hab
    refine ⟨by rw [k114, i8]; exact h9.1, ?_, by rw [k115, i10]; exact h9.2.2.1, by rw [k116, i11]; exact h9.2.2.2.1, by rw [k118, i15]; exact h9.2.2.2.2.1, fun z hz => ?_⟩
    · rw [q119 a b a (by omega) (by omega), i8, if_neg (fun w => hqx (by rw [← w.2.2]; exact w.1))]; exact h9.2.1
    · rw [n7] at hz
      have h8 := h9.2.2.2.2.2 z hz
      have hz4 := gw_p W (gw_ot W hab hz)
      refine ⟨?_, by rw [k117, i12]; exact h8.2.1, by rw [k120, i13]; exact h8.2.2.1, by rw [i13, i14, n13, n0, k121, k122]; exact h8.2.2.2⟩
      rw [q119 a b z (by omega) (by omega), e9]
      by_cases hx : a = x ∧ b = y
      · rw [hx.1, hx.2, h7] at hz
        rw [if_pos ⟨hx.1, hx.2, by omega⟩, if_pos hx, tv]
      · rw [if_neg hx, if_neg (fun w => hx ⟨w.1, w.2.1⟩)]; exact h8.1
  · intro a b ha hb hab
    rw [n6] at hab
    rw [n0] at ha
    have h9 := kZ a b ha hb hab
    refine ⟨by rw [k114]; exact h9.1, by rw [k115]; exact h9.2.1, by rw [k116]; exact h9.2.2.1, by rw [k117]; exact h9.2.2.2.1, by rw [k118]; exact h9.2.2.2.2.1, fun z hz => ?_⟩
    rw [q119 a b z hb hz, k120, if_neg (fun w => hab (by rw [w.1, w.2.1]; exact hp))]
    exact h9.2.2.2.2.2 z hz
  · exact jj_M_fr n0 n2 n7 n8 n9 n13 i16 i17 i18 m127 m128 m129 k126 k130 k131 k132 kM
  · rw [hT]
    exact gw_of rfl W
  · exact pp_S_fr n0 n1 n6 n7 n13 n14 i0 S
  · obtain ⟨t1, t2, t3, t4, t5⟩ := T
    refine ⟨by rw [i5]; exact t1, by rw [i7, i5]; exact t2, by rw [i20, i5]; exact t3, by rw [n1, i2, i5]; exact t4, fun a b hab => ?_⟩
    rw [n6] at hab
    have h9 := t5 a b hab
    rw [i8, i2, i7, n7, i10, e9]
    by_cases hx : a = x ∧ b = y
    · rw [if_pos hx]
      rw [hx.1, hx.2, h7, Nat.add_sub_cancel] at h9 ⊢
      rw [jn_m1] at hc1
      have hc2 : c.toInt = (τ.2.1 8 q y).toInt := by rw [hc]
      refine ⟨h9.1, Or.inr ⟨by omega, hc2, hc1⟩, ?_⟩
      rcases h9.2.2 with z | z
      · exact Or.inl z
      · refine Or.inr ⟨z.1, Or.inr hc1, by omega, z.2.2.2⟩
    · rw [if_neg hx]; exact h9
  · exact pp_L_fr n2 n7 n8 n9 i8 i16 i18 L
  · exact pp_R_fr n0 n3 n5 n6 i8 i10 i11 R
  · exact pp_W_fr n0 n3 n4 n5 n6 i11 i12 i15 Wk
  · exact pp_A_fr n1 n3 n4 n5 n6 n12 i2 i3 i10 i15 i20 l0 A
  · exact pp_F_fr n1 n2 n6 i8 i12 F
  · exact pp_G_fr n0 n1 n2 n3 n4 n5 n6 n7 n8 n9 n13 n14 i0 i1 i3 i4 i12 i13 i14 i16 i18 i19 G
set_option maxHeartbeats 4000000 in
theorem jR2_step {τ μ : gs_T} {V : Nat → Nat → Nat → Int32} (K : jj_K τ μ V) {x y q : Nat} {c a0 b0 : Int32} (hp : τ.1 6 x y = 1) (h7 : τ.1 7 x y = q + 1) (hc : c = if τ.1 13 y 0 % τ.1 0 0 0 = q then a0 else b0) (hs : τ.2.1 12 q y = 1) (hv : ∀ j, pp_k τ q y j → c = V q j (sc_ky τ q y)) : jj_K (gs_i (gs_i τ 14 x y c) 13 x y 1) (gs_i (gs_i (gs_i μ 120 (4 * (40 * x + y) + q) 0 1) 121 (4 * (40 * x + y) + q) 0 a0) 122 (4 * (40 * x + y) + q) 0 b0) V := by
  have J : jj_J τ μ := ⟨K.1, K.2.1, V, K.2.2⟩
  have hn := jq_n J
  have hgo := gw_p J.2.1.1 hp
  have hgq := gw_p J.2.1.1 (gw_ot J.2.1.1 hp h7)
  obtain ⟨τ', hT⟩ : ∃ t, t = (gs_i (gs_i τ 14 x y c) 13 x y 1) := ⟨_, rfl⟩
  obtain ⟨μ', hM⟩ : ∃ t, t = (gs_i (gs_i (gs_i μ 120 (4 * (40 * x + y) + q) 0 1) 121 (4 * (40 * x + y) + q) 0 a0) 122 (4 * (40 * x + y) + q) 0 b0) := ⟨_, rfl⟩
  rw [← hT, ← hM]
  have n0 : τ'.1 0 = τ.1 0 := by rw [hT]; simp (decide := true) only [gs_i, gs_n, gs_l, gs_u_ne]
  have n1 : τ'.1 1 = τ.1 1 := by rw [hT]; simp (decide := true) only [gs_i, gs_n, gs_l, gs_u_ne]
  have n2 : τ'.1 2 = τ.1 2 := by rw [hT]; simp (decide := true) only [gs_i, gs_n, gs_l, gs_u_ne]
  have n3 : τ'.1 3 = τ.1 3 := by rw [hT]; simp (decide := true) only [gs_i, gs_n, gs_l, gs_u_ne]
  have n4 : τ'.1 4 = τ.1 4 := by rw [hT]; simp (decide := true) only [gs_i, gs_n, gs_l, gs_u_ne]
  have n5 : τ'.1 5 = τ.1 5 := by rw [hT]; simp (decide := true) only [gs_i, gs_n, gs_l, gs_u_ne]
  have n6 : τ'.1 6 = τ.1 6 := by rw [hT]; simp (decide := true) only [gs_i, gs_n, gs_l, gs_u_ne]
  have n7 : τ'.1 7 = τ.1 7 := by rw [hT]; simp (decide := true) only [gs_i, gs_n, gs_l, gs_u_ne]
  have n8 : τ'.1 8 = τ.1 8 := by rw [hT]; simp (decide := true) only [gs_i, gs_n, gs_l, gs_u_ne]
  have n9 : τ'.1 9 = τ.1 9 := by rw [hT]; simp (decide := true) only [gs_i, gs_n, gs_l, gs_u_ne]
  have n12 : τ'.1 12 = τ.1 12 := by rw [hT]; simp (decide := true) only [gs_i, gs_n, gs_l, gs_u_ne]
  have n13 : τ'.1 13 = τ.1 13 := by rw [hT]; simp (decide := true) only [gs_i, gs_n, gs_l, gs_u_ne]
  have n14 : τ'.1 14 = τ.1 14 := by rw [hT]; simp (decide := true) only [gs_i, gs_n, gs_l, gs_u_ne]
  have i0 : τ'.2.1 0 = τ.2.1 0 := by rw [hT]; simp (decide := true) only [gs_i, gs_n, gs_l, gs_u_ne]
  have i1 : τ'.2.1 1 = τ.2.1 1 := by rw [hT]; simp (decide := true) only [gs_i, gs_n, gs_l, gs_u_ne]
  have i2 : τ'.2.1 2 = τ.2.1 2 := by rw [hT]; simp (decide := true) only [gs_i, gs_n, gs_l, gs_u_ne]
  have i3 : τ'.2.1 3 = τ.2.1 3 := by rw [hT]; simp (decide := true) only [gs_i, gs_n, gs_l, gs_u_ne]
  have i4 : τ'.2.1 4 = τ.2.1 4 := by rw [hT]; simp (decide := true) only [gs_i, gs_n, gs_l, gs_u_ne]
  have i5 : τ'.2.1 5 = τ.2.1 5 := by rw [hT]; simp (decide := true) only [gs_i, gs_n, gs_l, gs_u_ne]
  have i6 : τ'.2.1 6 = τ.2.1 6 := by rw [hT]; simp (decide := true) only [gs_i, gs_n, gs_l, gs_u_ne]
  have i7 : τ'.2.1 7 = τ.2.1 7 := by rw [hT]; simp (decide := true) only [gs_i, gs_n, gs_l, gs_u_ne]
  have i8 : τ'.2.1 8 = τ.2.1 8 := by rw [hT]; simp (decide := true) only [gs_i, gs_n, gs_l, gs_u_ne]
  have i9 : τ'.2.1 9 = τ.2.1 9 := by rw [hT]; simp (decide := true) only [gs_i, gs_n, gs_l, gs_u_ne]
  have i10 : τ'.2.1 10 = τ.2.1 10 := by rw [hT]; simp (decide := true) only [gs_i, gs_n, gs_l, gs_u_ne]
  have i11 : τ'.2.1 11 = τ.2.1 11 := by rw [hT]; simp (decide := true) only [gs_i, gs_n, gs_l, gs_u_ne]
  have i12 : τ'.2.1 12 = τ.2.1 12 := by rw [hT]; simp (decide := true) only [gs_i, gs_n, gs_l, gs_u_ne]
  have i15 : τ'.2.1 15 = τ.2.1 15 := by rw [hT]; simp (decide := true) only [gs_i, gs_n, gs_l, gs_u_ne]
  have i16 : τ'.2.1 16 = τ.2.1 16 := by rw [hT]; simp (decide := true) only [gs_i, gs_n, gs_l, gs_u_ne]
  have i17 : τ'.2.1 17 = τ.2.1 17 := by rw [hT]; simp (decide := true) only [gs_i, gs_n, gs_l, gs_u_ne]
  have i18 : τ'.2.1 18 = τ.2.1 18 := by rw [hT]; simp (decide := true) only [gs_i, gs_n, gs_l, gs_u_ne]
  have i19 : τ'.2.1 19 = τ.2.1 19 := by rw [hT]; simp (decide := true) only [gs_i, gs_n, gs_l, gs_u_ne]
  have i20 : τ'.2.1 20 = τ.2.1 20 := by rw [hT]; simp (decide := true) only [gs_i, gs_n, gs_l, gs_u_ne]
  have l0 : τ'.2.2 = τ.2.2 := by rw [hT]; simp (decide := true) only [gs_i, gs_n, gs_l, gs_u_ne]
  have m31 : μ'.1 31 = μ.1 31 := by rw [hM]; simp (decide := true) only [gs_i, gs_n, gs_l, gs_u_ne]
  have m100 : μ'.1 100 = μ.1 100 := by rw [hM]; simp (decide := true) only [gs_i, gs_n, gs_l, gs_u_ne]
  have m104 : μ'.1 104 = μ.1 104 := by rw [hM]; simp (decide := true) only [gs_i, gs_n, gs_l, gs_u_ne]
  have m105 : μ'.1 105 = μ.1 105 := by rw [hM]; simp (decide := true) only [gs_i, gs_n, gs_l, gs_u_ne]
  have m107 : μ'.1 107 = μ.1 107 := by rw [hM]; simp (decide := true) only [gs_i, gs_n, gs_l, gs_u_ne]
  have m108 : μ'.1 108 = μ.1 108 := by rw [hM]; simp (decide := true) only [gs_i, gs_n, gs_l, gs_u_ne]
  have m123 : μ'.1 123 = μ.1 123 := by rw [hM]; simp (decide := true) only [gs_i, gs_n, gs_l, gs_u_ne]
  have m124 : μ'.1 124 = μ.1 124 := by rw [hM]; simp (decide := true) only [gs_i, gs_n, gs_l, gs_u_ne]
  have m125 : μ'.1 125 = μ.1 125 := by rw [hM]; simp (decide := true) only [gs_i, gs_n, gs_l, gs_u_ne]
  have m127 : μ'.1 127 = μ.1 127 := by rw [hM]; simp (decide := true) only [gs_i, gs_n, gs_l, gs_u_ne]
  have m128 : μ'.1 128 = μ.1 128 := by rw [hM]; simp (decide := true) only [gs_i, gs_n, gs_l, gs_u_ne]
  have m129 : μ'.1 129 = μ.1 129 := by rw [hM]; simp (decide := true) only [gs_i, gs_n, gs_l, gs_u_ne]
  have k101 : μ'.2.1 101 = μ.2.1 101 := by rw [hM]; simp (decide := true) only [gs_i, gs_n, gs_l, gs_u_ne]
  have k102 : μ'.2.1 102 = μ.2.1 102 := by rw [hM]; simp (decide := true) only [gs_i, gs_n, gs_l, gs_u_ne]
  have k103 : μ'.2.1 103 = μ.2.1 103 := by rw [hM]; simp (decide := true) only [gs_i, gs_n, gs_l, gs_u_ne]
  have k106 : μ'.2.1 106 = μ.2.1 106 := by rw [hM]; simp (decide := true) only [gs_i, gs_n, gs_l, gs_u_ne]
  have k109 : μ'.2.1 109 = μ.2.1 109 := by rw [hM]; simp (decide := true) only [gs_i, gs_n, gs_l, gs_u_ne]
  have k110 : μ'.2.1 110 = μ.2.1 110 := by rw [hM]; simp (decide := true) only [gs_i, gs_n, gs_l, gs_u_ne]
  have k111 : μ'.2.1 111 = μ.2.1 111 := by rw [hM]; simp (decide := true) only [gs_i, gs_n, gs_l, gs_u_ne]
  have k112 : μ'.2.1 112 = μ.2.1 112 := by rw [hM]; simp (decide := true) only [gs_i, gs_n, gs_l, gs_u_ne]
  have k113 : μ'.2.1 113 = μ.2.1 113 := by rw [hM]; simp (decide := true) only [gs_i, gs_n, gs_l, gs_u_ne]
  have k114 : μ'.2.1 114 = μ.2.1 114 := by rw [hM]; simp (decide := true) only [gs_i, gs_n, gs_l, gs_u_ne]
  have k115 : μ'.2.1 115 = μ.2.1 115 := by rw [hM]; simp (decide := true) only [gs_i, gs_n, gs_l, gs_u_ne]
  have k116 : μ'.2.1 116 = μ.2.1 116 := by rw [hM]; simp (decide := true) only [gs_i, gs_n, gs_l, gs_u_ne]
  have k117 : μ'.2.1 117 = μ.2.1 117 := by rw [hM]; simp (decide := true) only [gs_i, gs_n, gs_l, gs_u_ne]
  have k118 : μ'.2.1 118 = μ.2.1 118 := by rw [hM]; simp (decide := true) only [gs_i, gs_n, gs_l, gs_u_ne]
  have k119 : μ'.2.1 119 = μ.2.1 119 := by rw [hM]; simp (decide := true) only [gs_i, gs_n, gs_l, gs_u_ne]
  have k126 : μ'.2.1 126 = μ.2.1 126 := by rw [hM]; simp (decide := true) only [gs_i, gs_n, gs_l, gs_u_ne]
  have k130 : μ'.2.1 130 = μ.2.1 130 := by rw [hM]; simp (decide := true) only [gs_i, gs_n, gs_l, gs_u_ne]
  have k131 : μ'.2.1 131 = μ.2.1 131 := by rw [hM]; simp (decide := true) only [gs_i, gs_n, gs_l, gs_u_ne]
  have k132 : μ'.2.1 132 = μ.2.1 132 := by rw [hM]; simp (decide := true) only [gs_i, gs_n, gs_l, gs_u_ne]
  have k133 : μ'.2.1 133 = μ.2.1 133 := by rw [hM]; simp (decide := true) only [gs_i, gs_n, gs_l, gs_u_ne]
  have e13 : ∀ a b, τ'.2.1 13 a b = if a = x ∧ b = y then 1 else τ.2.1 13 a b := fun a b => by rw [hT]; exact gs_u_at
  have e14 : ∀ a b, τ'.2.1 14 a b = if a = x ∧ b = y then c else τ.2.1 14 a b := fun a b => by rw [hT]; simp (decide := true) only [gs_i, gs_u_ne, gs_u_at]
  have q120 : ∀ a b z, b < 40 → z < 4 → μ'.2.1 120 (4 * (40 * a + b) + z) 0 = if a = x ∧ b = y ∧ z = q then 1 else μ.2.1 120 (4 * (40 * a + b) + z) 0 := fun a b z hb hz => by rw [hM]; simp (decide := true) only [gs_i, gs_u_ne]; exact gu_i4 (by omega) hb (by omega) hz
  have q121 : ∀ a b z, b < 40 → z < 4 → μ'.2.1 121 (4 * (40 * a + b) + z) 0 = if a = x ∧ b = y ∧ z = q then a0 else μ.2.1 121 (4 * (40 * a + b) + z) 0 := fun a b z hb hz => by rw [hM]; simp (decide := true) only [gs_i, gs_u_ne]; exact gu_i4 (by omega) hb (by omega) hz
  have q122 : ∀ a b z, b < 40 → z < 4 → μ'.2.1 122 (4 * (40 * a + b) + z) 0 = if a = x ∧ b = y ∧ z = q then b0 else μ.2.1 122 (4 * (40 * a + b) + z) 0 := fun a b z hb hz => by rw [hM]; simp (decide := true) only [gs_i, gs_u_ne]; exact gu_i4 (by omega) hb (by omega) hz
  have hpk : ∀ x y j, pp_k τ' x y j ↔ pp_k τ x y j := fun x y j => by unfold pp_k; rw [n3, n4, n5]
  obtain ⟨⟨kA, kO, kG, kV, kT, kP, kZ, kM⟩, ⟨W, S, T, L, R, Wk, A, F⟩, G⟩ := K
  refine ⟨⟨?_, ?_, ?_, ?_, ?_, ?_, ?_, ?_⟩, ⟨?_, ?_, ?_, ?_, ?_, ?_, ?_, ?_⟩, ?_⟩
  · refine ⟨?_, ?_, ?_, ?_, ?_, ?_⟩
    · rw [m100, n0]; exact kA.1
    · rw [m104, n1]; exact kA.2.1
    · rw [m125, n2]; exact kA.2.2.1
    · rw [k133, i5]; exact kA.2.2.2.1
    · rw [hM]; exact kA.2.2.2.2.1
    · rw [m31]; exact kA.2.2.2.2.2
  · exact jj_O_fr n1 n12 n13 n14 i0 i1 i2 i3 i4 m105 m107 m108 k106 k109 k110 k111 k112 kO
  · exact jj_G_fr n0 i6 i7 k101 k102 kG
  · exact jj_V_fr i19 i20 k103 k113 kV
  · exact jj_T_fr n0 n3 n5 m123 m124 kT
  · intro a b hab
    rw [n6] at hab
    have h9 := kP a b hab
    have hb := gw_p W hab
    refine ⟨by rw [k114, i8]; exact h9.1, by rw [k119, i8]; exact h9.2.1, by rw [k115, i10]; exact h9.2.2.1, by rw [k116, i11]; exact h9.2.2.2.1, by rw [k118, i15]; exact h9.2.2.2.2.1, fun z hz => ?_⟩
    rw [n7] at hz
    have h8 := h9.2.2.2.2.2 z hz
    have hz4 := gw_p W (gw_ot W hab hz)
    refine ⟨by rw [k119, i9]; exact h8.1, by rw [k117, i12]; exact h8.2.1, ?_⟩
    rw [q120 a b z (by omega) (by omega), q121 a b z (by omega) (by omega), q122 a b z (by omega) (by omega), e13, e14, n13, n0]
    by_cases hx : a = x ∧ b = y
    · rw [hx.1, hx.2, h7] at hz
      have hx3 : a = x ∧ b = y ∧ z = q := ⟨hx.1, hx.2, by omega⟩
      rw [if_pos hx3, if_pos hx3, if_pos hx3, if_pos hx, if_pos hx, hx.2, hx3.2.2]
      exact ⟨rfl, fun _ => hc⟩
    · have hx3 : ¬ (a = x ∧ b = y ∧ z = q) := fun w => hx ⟨w.1, w.2.1⟩
      rw [if_neg hx3, if_neg hx3, if_neg hx3, if_neg hx, if_neg hx]; exact h8.2.2
  · intro a b ha hb hab
    rw [n6] at hab
    rw [n0] at ha
    have h9 := kZ a b ha hb hab
    refine ⟨by rw [k114]; exact h9.1, by rw [k115]; exact h9.2.1, by rw [k116]; exact h9.2.2.1, by rw [k117]; exact h9.2.2.2.1, by rw [k118]; exact h9.2.2.2.2.1, fun z hz => ?_⟩
    rw [q120 a b z hb hz, k119, if_neg (fun w => hab (by rw [w.1, w.2.1]; exact hp))]
    exact h9.2.2.2.2.2 z hz
  · exact jj_M_fr n0 n2 n7 n8 n9 n13 i16 i17 i18 m127 m128 m129 k126 k130 k131 k132 kM
  · rw [hT]
    exact gw_of rfl W
  · exact pp_S_fr n0 n1 n6 n7 n13 n14 i0 S
  · exact pp_T_fr n1 n6 n7 i2 i5 i7 i8 i9 i10 i20 T
  · exact pp_L_fr n2 n7 n8 n9 i8 i16 i18 L
  · exact pp_R_fr n0 n3 n5 n6 i8 i10 i11 R
  · exact pp_W_fr n0 n3 n4 n5 n6 i11 i12 i15 Wk
  · exact pp_A_fr n1 n3 n4 n5 n6 n12 i2 i3 i10 i15 i20 l0 A
  · exact pp_F_fr n1 n2 n6 i8 i12 F
  · obtain ⟨g1, g2, g3, g4, g5⟩ := G
    have e1 : sc_rp τ' = sc_rp τ := by funext o u v; exact sc_rp_fr n13 n14 i0 i1
    have e2' : pp_e τ' = pp_e τ := by funext o k u v w; exact sc_pe_fr n13 n14 i0 i1
    have e4 : sc_ky τ' = sc_ky τ := by funext g o; exact sc_ky_fr n0 n13 n14
    refine ⟨by rw [n0]; exact g1, by rw [n0, n4, i19]; exact g2, fun y2 ja jb hy hz pa pb2 => ?_, fun a b hab => ?_, fun i hi hk2 => ?_⟩
    · rw [n1] at hy
      rw [i3] at hz
      rw [n0, n13, hpk] at pa
      rw [n0, n14, hpk] at pb2
      unfold pp_i
      rw [n0, n13, n14, i4, e1, e2']
      exact g3 y2 ja jb hy hz pa pb2
    · rw [n6] at hab
      rw [e13, n7, i12, e14, e4]
      by_cases hx : a = x ∧ b = y
      · rw [if_pos hx, if_pos hx, hx.1, hx.2, h7, Nat.add_sub_cancel]
        exact Or.inr ⟨rfl, by omega, hs, fun j hj => hv j ((hpk _ _ _).mp hj)⟩
      · rw [if_neg hx, if_neg hx]
        rcases g4 a b hab with z | ⟨z1, z2, z3, z4⟩
        · exact Or.inl z
        · exact Or.inr ⟨z1, z2, z3, fun j hj => z4 j ((hpk _ _ _).mp hj)⟩
    · rw [n2] at hi
      rw [i16] at hk2
      rw [n7, n8, n9, i18, i12, e4]
      have h9 := g5 i hi hk2
      exact ⟨h9.1, fun j hj => h9.2 j ((hpk _ _ _).mp hj)⟩
set_option maxHeartbeats 4000000 in
theorem jR0s_step {τ μ : gs_T} (J : jj_J τ μ) {x y : Nat} (hp : τ.1 6 x y = 1) (h8 : τ.2.1 8 x y = -1) (hb7 : (τ.2.1 7 x 0).toInt < (τ.2.1 5 0 0).toInt) (hb2 : (τ.2.1 2 y 0).toInt < (τ.2.1 5 0 0).toInt) : jj_J (sc_start τ x y) (gs_i (gs_i (gs_i μ 114 (40 * x + y) 0 1) 101 x 0 (sc_sv τ x y)) 119 (4 * (40 * x + y) + x) 0 (sc_sv τ x y)) := by
  have hn := jq_n J
  have hgo := gw_p J.2.1.1 hp
  have t5 := J.2.1.2.2.1.1
  have t7 := J.2.1.2.2.1.2.1 x
  have hvi : (sc_sv τ x y).toInt = max (τ.2.1 7 x 0).toInt (τ.2.1 2 y 0).toInt + 1 := by
    unfold sc_sv
    rw [ti_inc (by rw [ti_mx]; omega) (by rw [ti_mx]; omega), ti_mx]
  have hvn : ¬ sc_sv τ x y = -1 := by rw [jn_m1]; omega
  have tv : ti_tm (sc_sv τ x y) = sc_sv τ x y := by rw [ti_tm, if_neg hvn]
  have h8' : (τ.2.1 8 x y).toInt = -1 := by rw [h8]; decide
  have h10 : (τ.2.1 10 x y).toInt = -1 := by
    rcases (J.2.1.2.2.1.2.2.2.2 x y hp).2.2 with z | z
    · exact z
    · exact absurd h8' z.1
  obtain ⟨τ', hT⟩ : ∃ t, t = (sc_start τ x y) := ⟨_, rfl⟩
  obtain ⟨μ', hM⟩ : ∃ t, t = (gs_i (gs_i (gs_i μ 114 (40 * x + y) 0 1) 101 x 0 (sc_sv τ x y)) 119 (4 * (40 * x + y) + x) 0 (sc_sv τ x y)) := ⟨_, rfl⟩
  rw [← hT, ← hM]
  have n0 : τ'.1 0 = τ.1 0 := by rw [hT]; simp (decide := true) only [gs_i, gs_n, gs_l, gs_u_ne, sc_start]
  have n1 : τ'.1 1 = τ.1 1 := by rw [hT]; simp (decide := true) only [gs_i, gs_n, gs_l, gs_u_ne, sc_start]
  have n2 : τ'.1 2 = τ.1 2 := by rw [hT]; simp (decide := true) only [gs_i, gs_n, gs_l, gs_u_ne, sc_start]
  have n3 : τ'.1 3 = τ.1 3 := by rw [hT]; simp (decide := true) only [gs_i, gs_n, gs_l, gs_u_ne, sc_start]
  have n4 : τ'.1 4 = τ.1 4 := by rw [hT]; simp (decide := true) only [gs_i, gs_n, gs_l, gs_u_ne, sc_start]
  have n5 : τ'.1 5 = τ.1 5 := by rw [hT]; simp (decide := true) only [gs_i, gs_n, gs_l, gs_u_ne, sc_start]
  have n6 : τ'.1 6 = τ.1 6 := by rw [hT]; simp (decide := true) only [gs_i, gs_n, gs_l, gs_u_ne, sc_start]
  have n7 : τ'.1 7 = τ.1 7 := by rw [hT]; simp (decide := true) only [gs_i, gs_n, gs_l, gs_u_ne, sc_start]
  have n8 : τ'.1 8 = τ.1 8 := by rw [hT]; simp (decide := true) only [gs_i, gs_n, gs_l, gs_u_ne, sc_start]
  have n9 : τ'.1 9 = τ.1 9 := by rw [hT]; simp (decide := true) only [gs_i, gs_n, gs_l, gs_u_ne, sc_start]
  have n12 : τ'.1 12 = τ.1 12 := by rw [hT]; simp (decide := true) only [gs_i, gs_n, gs_l, gs_u_ne, sc_start]
  have n13 : τ'.1 13 = τ.1 13 := by rw [hT]; simp (decide := true) only [gs_i, gs_n, gs_l, gs_u_ne, sc_start]
  have n14 : τ'.1 14 = τ.1 14 := by rw [hT]; simp (decide := true) only [gs_i, gs_n, gs_l, gs_u_ne, sc_start]
  have i0 : τ'.2.1 0 = τ.2.1 0 := by rw [hT]; simp (decide := true) only [gs_i, gs_n, gs_l, gs_u_ne, sc_start]
  have i1 : τ'.2.1 1 = τ.2.1 1 := by rw [hT]; simp (decide := true) only [gs_i, gs_n, gs_l, gs_u_ne, sc_start]
  have i2 : τ'.2.1 2 = τ.2.1 2 := by rw [hT]; simp (decide := true) only [gs_i, gs_n, gs_l, gs_u_ne, sc_start]
  have i3 : τ'.2.1 3 = τ.2.1 3 := by rw [hT]; simp (decide := true) only [gs_i, gs_n, gs_l, gs_u_ne, sc_start]
  have i4 : τ'.2.1 4 = τ.2.1 4 := by rw [hT]; simp (decide := true) only [gs_i, gs_n, gs_l, gs_u_ne, sc_start]
  have i5 : τ'.2.1 5 = τ.2.1 5 := by rw [hT]; simp (decide := true) only [gs_i, gs_n, gs_l, gs_u_ne, sc_start]
  have i6 : τ'.2.1 6 = τ.2.1 6 := by rw [hT]; simp (decide := true) only [gs_i, gs_n, gs_l, gs_u_ne, sc_start]
  have i9 : τ'.2.1 9 = τ.2.1 9 := by rw [hT]; simp (decide := true) only [gs_i, gs_n, gs_l, gs_u_ne, sc_start]
  have i10 : τ'.2.1 10 = τ.2.1 10 := by rw [hT]; simp (decide := true) only [gs_i, gs_n, gs_l, gs_u_ne, sc_start]
  have i11 : τ'.2.1 11 = τ.2.1 11 := by rw [hT]; simp (decide := true) only [gs_i, gs_n, gs_l, gs_u_ne, sc_start]
  have i12 : τ'.2.1 12 = τ.2.1 12 := by rw [hT]; simp (decide := true) only [gs_i, gs_n, gs_l, gs_u_ne, sc_start]
  have i13 : τ'.2.1 13 = τ.2.1 13 := by rw [hT]; simp (decide := true) only [gs_i, gs_n, gs_l, gs_u_ne, sc_start]
  have i14 : τ'.2.1 14 = τ.2.1 14 := by rw [hT]; simp (decide := true) only [gs_i, gs_n, gs_l, gs_u_ne, sc_start]
  have i15 : τ'.2.1 15 = τ.2.1 15 := by rw [hT]; simp (decide := true) only [gs_i, gs_n, gs_l, gs_u_ne, sc_start]
  have i16 : τ'.2.1 16 = τ.2.1 16 := by rw [hT]; simp (decide := true) only [gs_i, gs_n, gs_l, gs_u_ne, sc_start]
  have i17 : τ'.2.1 17 = τ.2.1 17 := by rw [hT]; simp (decide := true) only [gs_i, gs_n, gs_l, gs_u_ne, sc_start]
  have i18 : τ'.2.1 18 = τ.2.1 18 := by rw [hT]; simp (decide := true) only [gs_i, gs_n, gs_l, gs_u_ne, sc_start]
  have i19 : τ'.2.1 19 = τ.2.1 19 := by rw [hT]; simp (decide := true) only [gs_i, gs_n, gs_l, gs_u_ne, sc_start]
  have i20 : τ'.2.1 20 = τ.2.1 20 := by rw [hT]; simp (decide := true) only [gs_i, gs_n, gs_l, gs_u_ne, sc_start]
  have l0 : τ'.2.2 = τ.2.2 := by rw [hT]; simp (decide := true) only [gs_i, gs_n, gs_l, gs_u_ne, sc_start]
  have m31 : μ'.1 31 = μ.1 31 := by rw [hM]; simp (decide := true) only [gs_i, gs_n, gs_l, gs_u_ne, sc_start]
  have m100 : μ'.1 100 = μ.1 100 := by rw [hM]; simp (decide := true) only [gs_i, gs_n, gs_l, gs_u_ne, sc_start]
  have m104 : μ'.1 104 = μ.1 104 := by rw [hM]; simp (decide := true) only [gs_i, gs_n, gs_l, gs_u_ne, sc_start]
  have m105 : μ'.1 105 = μ.1 105 := by rw [hM]; simp (decide := true) only [gs_i, gs_n, gs_l, gs_u_ne, sc_start]
  have m107 : μ'.1 107 = μ.1 107 := by rw [hM]; simp (decide := true) only [gs_i, gs_n, gs_l, gs_u_ne, sc_start]
  have m108 : μ'.1 108 = μ.1 108 := by rw [hM]; simp (decide := true) only [gs_i, gs_n, gs_l, gs_u_ne, sc_start]
  have m123 : μ'.1 123 = μ.1 123 := by rw [hM]; simp (decide := true) only [gs_i, gs_n, gs_l, gs_u_ne, sc_start]
  have m124 : μ'.1 124 = μ.1 124 := by rw [hM]; simp (decide := true) only [gs_i, gs_n, gs_l, gs_u_ne, sc_start]
  have m125 : μ'.1 125 = μ.1 125 := by rw [hM]; simp (decide := true) only [gs_i, gs_n, gs_l, gs_u_ne, sc_start]
  have m127 : μ'.1 127 = μ.1 127 := by rw [hM]; simp (decide := true) only [gs_i, gs_n, gs_l, gs_u_ne, sc_start]
  have m128 : μ'.1 128 = μ.1 128 := by rw [hM]; simp (decide := true) only [gs_i, gs_n, gs_l, gs_u_ne, sc_start]
  have m129 : μ'.1 129 = μ.1 129 := by rw [hM]; simp (decide := true) only [gs_i, gs_n, gs_l, gs_u_ne, sc_start]
  have k102 : μ'.2.1 102 = μ.2.1 102 := by rw [hM]; simp (decide := true) only [gs_i, gs_n, gs_l, gs_u_ne, sc_start]
  have k103 : μ'.2.1 103 = μ.2.1 103 := by rw [hM]; simp (decide := true) only [gs_i, gs_n, gs_l, gs_u_ne, sc_start]
  have k106 : μ'.2.1 106 = μ.2.1 106 := by rw [hM]; simp (decide := true) only [gs_i, gs_n, gs_l, gs_u_ne, sc_start]
  have k109 : μ'.2.1 109 = μ.2.1 109 := by rw [hM]; simp (decide := true) only [gs_i, gs_n, gs_l, gs_u_ne, sc_start]
  have k110 : μ'.2.1 110 = μ.2.1 110 := by rw [hM]; simp (decide := true) only [gs_i, gs_n, gs_l, gs_u_ne, sc_start]
  have k111 : μ'.2.1 111 = μ.2.1 111 := by rw [hM]; simp (decide := true) only [gs_i, gs_n, gs_l, gs_u_ne, sc_start]
  have k112 : μ'.2.1 112 = μ.2.1 112 := by rw [hM]; simp (decide := true) only [gs_i, gs_n, gs_l, gs_u_ne, sc_start]
  have k113 : μ'.2.1 113 = μ.2.1 113 := by rw [hM]; simp (decide := true) only [gs_i, gs_n, gs_l, gs_u_ne, sc_start]
  have k115 : μ'.2.1 115 = μ.2.1 115 := by rw [hM]; simp (decide := true) only [gs_i, gs_n, gs_l, gs_u_ne, sc_start]
  have k116 : μ'.2.1 116 = μ.2.1 116 := by rw [hM]; simp (decide := true) only [gs_i, gs_n, gs_l, gs_u_ne, sc_start]
  have k117 : μ'.2.1 117 = μ.2.1 117 := by rw [hM]; simp (decide := true) only [gs_i, gs_n, gs_l, gs_u_ne, sc_start]
  have k118 : μ'.2.1 118 = μ.2.1 118 := by rw [hM]; simp (decide := true) only [gs_i, gs_n, gs_l, gs_u_ne, sc_start]
  have k120 : μ'.2.1 120 = μ.2.1 120 := by rw [hM]; simp (decide := true) only [gs_i, gs_n, gs_l, gs_u_ne, sc_start]
  have k121 : μ'.2.1 121 = μ.2.1 121 := by rw [hM]; simp (decide := true) only [gs_i, gs_n, gs_l, gs_u_ne, sc_start]
  have k122 : μ'.2.1 122 = μ.2.1 122 := by rw [hM]; simp (decide := true) only [gs_i, gs_n, gs_l, gs_u_ne, sc_start]
  have k126 : μ'.2.1 126 = μ.2.1 126 := by rw [hM]; simp (decide := true) only [gs_i, gs_n, gs_l, gs_u_ne, sc_start]
  have k130 : μ'.2.1 130 = μ.2.1 130 := by rw [hM]; simp (decide := true) only [gs_i, gs_n, gs_l, gs_u_ne, sc_start]
  have k131 : μ'.2.1 131 = μ.2.1 131 := by rw [hM]; simp (decide := true) only [gs_i, gs_n, gs_l, gs_u_ne, sc_start]
  have k132 : μ'.2.1 132 = μ.2.1 132 := by rw [hM]; simp (decide := true) only [gs_i, gs_n, gs_l, gs_u_ne, sc_start]
  have k133 : μ'.2.1 133 = μ.2.1 133 := by rw [hM]; simp (decide := true) only [gs_i, gs_n, gs_l, gs_u_ne, sc_start]
  have f7 : ∀ a, τ'.2.1 7 a 0 = if a = x then sc_sv τ x y else τ.2.1 7 a 0 := fun a => by rw [hT]; simp (decide := true) only [sc_start, gs_i, gs_n, gs_u_ne]; exact gu_0
  have f8 : ∀ a b, τ'.2.1 8 a b = if a = x ∧ b = y then sc_sv τ x y else τ.2.1 8 a b := fun a b => by rw [hT]; simp (decide := true) only [sc_start, gs_i, gs_n, gs_u_ne]; exact gs_u_at
  have q101 : ∀ a, μ'.2.1 101 a 0 = if a = x then sc_sv τ x y else μ.2.1 101 a 0 := fun a => by rw [hM]; simp (decide := true) only [sc_start, gs_i, gs_n, gs_u_ne]; exact gu_0
  have q114 : ∀ a b, b < 40 → μ'.2.1 114 (40 * a + b) 0 = if a = x ∧ b = y then 1 else μ.2.1 114 (40 * a + b) 0 := fun a b hb => by rw [hM]; simp (decide := true) only [sc_start, gs_i, gs_n, gs_u_ne]; exact gu_ix (by omega) hb
  have q119 : ∀ a b z, b < 40 → z < 4 → μ'.2.1 119 (4 * (40 * a + b) + z) 0 = if a = x ∧ b = y ∧ z = x then sc_sv τ x y else μ.2.1 119 (4 * (40 * a + b) + z) 0 := fun a b z hb hz => by rw [hM]; simp (decide := true) only [sc_start, gs_i, gs_n, gs_u_ne]; exact gu_i4 (by omega) hb (by omega) hz
  generalize sc_sv τ x y = v at *
  obtain ⟨⟨kA, kO, kG, kV, kT, kP, kZ, kM⟩, ⟨W, S, T, L, R, Wk, A, F⟩, V, G⟩ := J
  have hne : ∀ i, i < τ.1 2 0 0 → τ.2.1 16 i 0 = 1 → ¬ (τ.1 7 (τ.1 8 i 0) (τ.1 9 i 0) - 1 = x ∧ τ.1 9 i 0 = y) := fun i hi h16 w => by
    have h9 := L i hi h16
    have h6 := h9.1
    rw [w.1, w.2, h8] at h6
    exact h9.2 h6
  refine ⟨⟨?_, ?_, ?_, ?_, ?_, ?_, ?_, ?_⟩, ⟨?_, ?_, ?_, ?_, ?_, ?_, ?_, ?_⟩, V, ?_⟩
  · refine ⟨?_, ?_, ?_, ?_, ?_, ?_⟩
    · rw [m100, n0]; exact kA.1
    · rw [m104, n1]; exact kA.2.1
    · rw [m125, n2]; exact kA.2.2.1
    · rw [k133, i5]; exact kA.2.2.2.1
    · rw [hM]; exact kA.2.2.2.2.1
    · rw [m31]; exact kA.2.2.2.2.2
  · exact jj_O_fr n1 n12 n13 n14 i0 i1 i2 i3 i4 m105 m107 m108 k106 k109 k110 k111 k112 kO
  · intro a ha
    rw [n0] at ha
    have h9 := kG a ha
    rw [f7, q101, i6, k102]
    by_cases hax : a = x
    · rw [if_pos hax, if_pos hax]; exact ⟨rfl, h9.2⟩
    · rw [if_neg hax, if_neg hax]; exact h9
  · exact jj_V_fr i19 i20 k103 k113 kV
  · exact jj_T_fr n0 n3 n5 m123 m124 kT
  · intro a b hab
    rw [n6] at hab
    have h9 := kP a b hab
    have hb := gw_p W hab
    refine ⟨?_, ?_, by rw [k115, i10]; exact h9.2.2.1, by rw [k116, i11]; exact h9.2.2.2.1, by rw [k118, i15]; exact h9.2.2.2.2.1, fun z hz => ?_⟩
    · rw [q114 a b (by omega), f8]
      by_cases hx : a = x ∧ b = y
      · rw [if_pos hx, if_pos hx, if_neg hvn]
      · rw [if_neg hx, if_neg hx]; exact h9.1
    · rw [q119 a b a (by omega) (by omega), f8]
      by_cases hx : a = x ∧ b = y
      · rw [if_pos ⟨hx.1, hx.2, hx.1⟩, if_pos hx, tv]
      · rw [if_neg hx, if_neg (fun w => hx ⟨w.1, w.2.1⟩)]; exact h9.2.1
    · rw [n7] at hz
      have h8 := h9.2.2.2.2.2 z hz
      have hz4 := gw_p W (gw_ot W hab hz)
      have hza : ¬ z = a := by
        rcases js_two W S hab with w | ⟨g2, w1, w2, w3, w4, _⟩
        · omega
        · omega
      rw [q119 a b z (by omega) (by omega), if_neg (fun w => hza (by rw [w.1]; exact w.2.2)), k117, k120, k121, k122, i9, i12, i13, i14, n13, n0]
      exact h8
  · intro a b ha hb hab
    rw [n6] at hab
    rw [n0] at ha
    have h9 := kZ a b ha hb hab
    have hx : ¬ (a = x ∧ b = y) := fun w => hab (by rw [w.1, w.2]; exact hp)
    refine ⟨by rw [q114 a b hb, if_neg hx]; exact h9.1, by rw [k115]; exact h9.2.1, by rw [k116]; exact h9.2.2.1, by rw [k117]; exact h9.2.2.2.1, by rw [k118]; exact h9.2.2.2.2.1, fun z hz => ?_⟩
    rw [q119 a b z hb hz, k120, if_neg (fun w => hx ⟨w.1, w.2.1⟩)]
    exact h9.2.2.2.2.2 z hz
  · exact jj_M_fr n0 n2 n7 n8 n9 n13 i16 i17 i18 m127 m128 m129 k126 k130 k131 k132 kM
  · rw [hT]
    exact gw_of rfl W
  · exact pp_S_fr n0 n1 n6 n7 n13 n14 i0 S
  · obtain ⟨t1, t2, t3, t4, t5⟩ := T
    have hge : ∀ a, (τ.2.1 7 a 0).toInt ≤ (τ'.2.1 7 a 0).toInt := fun a => by
      rw [f7]
      by_cases ha : a = x
      · rw [if_pos ha, ha]; omega
      · rw [if_neg ha]; exact Int.le_refl _
    refine ⟨by rw [i5]; exact t1, fun a => ?_, by rw [i20, i5]; exact t3, by rw [n1, i2, i5]; exact t4, fun a b hab => ?_⟩
    · rw [f7, i5]
      by_cases ha : a = x
      · rw [if_pos ha]; omega
      · rw [if_neg ha]; exact t2 a
    · rw [n6] at hab
      have h9 := t5 a b hab
      have h7a := hge a
      refine ⟨?_, ?_, ?_⟩
      · rw [f8, i2]
        by_cases hx : a = x ∧ b = y
        · rw [if_pos hx, f7, if_pos hx.1, hx.2]; right; omega
        · rw [if_neg hx]
          rcases h9.1 with z | z
          · exact Or.inl z
          · exact Or.inr ⟨z.1, by omega⟩
      · rw [i9, n7]
        rcases h9.2.1 with z | z
        · exact Or.inl z
        · refine Or.inr ⟨z.1, ?_, z.2.2⟩
          rw [f8, if_neg]
          · exact z.2.1
          · intro w
            have z2 := z.2.1
            rw [w.1, w.2, h8'] at z2
            rw [w.2] at z
            exact z.2.2 z2
      · rw [i10, i9, n7]
        rcases h9.2.2 with z | z
        · exact Or.inl z
        · have hx : ¬ (a = x ∧ b = y) := fun w => z.1 (by rw [w.1, w.2]; exact h8')
          rw [f8, if_neg hx]
          exact Or.inr ⟨z.1, z.2.1, z.2.2.1, by omega⟩
  · intro i hi h16
    rw [n2] at hi
    rw [i16] at h16
    rw [i18, n7, n8, n9, f8, if_neg (hne i hi h16)]
    exact L i hi h16
  · intro a ha
    rw [n0] at ha
    obtain ⟨r1, r2, r3, r4, r5⟩ := R a ha
    rw [n3, n5, n6, i10, i11]
    refine ⟨r1, r2, r3, fun k p b hk2 hp2 hb h8b h11 => ?_, r5⟩
    by_cases hx : a = x ∧ b = y
    · have hl : sc_lt τ' a b = v := by
        unfold sc_lt
        rw [i10, f8, if_pos hx, hx.1, hx.2, if_pos (by rw [jn_m1]; exact h10)]
      rw [hl]
      have h9 := (T.2.2.2.2 a p (gw_tp W hp2)).2.2
      have h6 := (r1 k p hk2 hp2).2
      rw [hx.1] at h9 h6
      rw [hx.1]
      left
      omega
    · have hl : sc_lt τ' a b = sc_lt τ a b := by
        unfold sc_lt
        rw [i10, f8, if_neg hx]
      rw [f8, if_neg hx] at h8b
      rw [hl]
      exact r4 k p b hk2 hp2 hb h8b h11
  · exact pp_W_fr n0 n3 n4 n5 n6 i11 i12 i15 Wk
  · exact pp_A_fr n1 n3 n4 n5 n6 n12 i2 i3 i10 i15 i20 l0 A
  · have F : τ.1 2 0 0 + ti_su (fun g => ti_su (fun o => pp_p τ g o) 40) 4 ≤ 6 * τ.1 1 0 0 := F
    show τ'.1 2 0 0 + ti_su (fun g => ti_su (fun o => pp_p τ' g o) 40) 4 ≤ 6 * τ'.1 1 0 0
    have h9 := su2_dec (f := pp_p τ) (f' := pp_p τ') (g := x) (o := y) (d := 1) (by omega) (by omega) ?_ ?_
    · rw [n2, n1]; omega
    · have e8p : τ'.2.1 8 x y = v := by rw [f8, if_pos ⟨rfl, rfl⟩]
      unfold pp_p
      rw [n6, i12, e8p, if_pos hp, if_pos hp, h8, if_neg hvn, if_pos rfl]
      omega
    · intro a b hab
      unfold pp_p
      rw [n6, i12, f8, if_neg hab]
  · exact pp_G_fr n0 n1 n2 n3 n4 n5 n6 n7 n8 n9 n13 n14 i0 i1 i3 i4 i12 i13 i14 i16 i18 i19 G
set_option maxHeartbeats 4000000 in
theorem jR0d_step {τ μ : gs_T} (J : jj_J τ μ) {x y g' : Nat} (hp : τ.1 6 x y = 1) (h8 : τ.2.1 8 x y = -1) (h7 : τ.1 7 x y = g' + 1) (hb7 : (τ.2.1 7 x 0).toInt < (τ.2.1 5 0 0).toInt) (hb2 : (τ.2.1 2 y 0).toInt < (τ.2.1 5 0 0).toInt) : jj_J (gs_n (sc_ad (sc_nw (sc_start τ x y) 4) (τ.1 2 0 0) (τ.1 20 0 0) 1 (nI x) g' y (sc_sv τ x y)) 2 0 0 (τ.1 2 0 0 + 1)) (sm_put (gs_i (gs_i (gs_i μ 114 (40 * x + y) 0 1) 101 x 0 (sc_sv τ x y)) 119 (4 * (40 * x + y) + x) 0 (sc_sv τ x y)) 1 y (x + 1) g' (sc_sv τ x y)) := by
  have hn := jq_n J
  have hgo := gw_p J.2.1.1 hp
  have t5 := J.2.1.2.2.1.1
  have t7 := J.2.1.2.2.1.2.1 x
  have hvi : (sc_sv τ x y).toInt = max (τ.2.1 7 x 0).toInt (τ.2.1 2 y 0).toInt + 1 := by
    unfold sc_sv
    rw [ti_inc (by rw [ti_mx]; omega) (by rw [ti_mx]; omega), ti_mx]
  have hvn : ¬ sc_sv τ x y = -1 := by rw [jn_m1]; omega
  have tv : ti_tm (sc_sv τ x y) = sc_sv τ x y := by rw [ti_tm, if_neg hvn]
  have h8' : (τ.2.1 8 x y).toInt = -1 := by rw [h8]; decide
  have h10 : (τ.2.1 10 x y).toInt = -1 := by
    rcases (J.2.1.2.2.1.2.2.2.2 x y hp).2.2 with z | z
    · exact z
    · exact absurd h8' z.1
  have hfl := jy_fl J hp (Or.inl h8)
  have hm2 : μ.1 125 0 0 = τ.1 2 0 0 := J.1.1.2.2.1
  have hp' := gw_ot J.2.1.1 hp h7
  have hgo' := gw_p J.2.1.1 hp'
  have h7' : τ.1 7 g' y = x + 1 ∧ ¬ g' = x := by
    rcases js_two J.2.1.1 J.2.1.2.1 hp with w | ⟨g2, w1, w2, w3, w4, _⟩
    · omega
    · rw [show g' = g2 by omega]; exact ⟨w4, w2⟩
  obtain ⟨τ', hT⟩ : ∃ t, t = (gs_n (sc_ad (sc_nw (sc_start τ x y) 4) (τ.1 2 0 0) (τ.1 20 0 0) 1 (nI x) g' y (sc_sv τ x y)) 2 0 0 (τ.1 2 0 0 + 1)) := ⟨_, rfl⟩
  obtain ⟨μ', hM⟩ : ∃ t, t = (sm_put (gs_i (gs_i (gs_i μ 114 (40 * x + y) 0 1) 101 x 0 (sc_sv τ x y)) 119 (4 * (40 * x + y) + x) 0 (sc_sv τ x y)) 1 y (x + 1) g' (sc_sv τ x y)) := ⟨_, rfl⟩
  rw [← hT, ← hM]
  have n0 : τ'.1 0 = τ.1 0 := by rw [hT]; simp (decide := true) only [gs_i, gs_n, gs_l, gs_u_ne, sc_start, sc_ad, sc_nw, sm_put]
  have n1 : τ'.1 1 = τ.1 1 := by rw [hT]; simp (decide := true) only [gs_i, gs_n, gs_l, gs_u_ne, sc_start, sc_ad, sc_nw, sm_put]
  have n3 : τ'.1 3 = τ.1 3 := by rw [hT]; simp (decide := true) only [gs_i, gs_n, gs_l, gs_u_ne, sc_start, sc_ad, sc_nw, sm_put]
  have n4 : τ'.1 4 = τ.1 4 := by rw [hT]; simp (decide := true) only [gs_i, gs_n, gs_l, gs_u_ne, sc_start, sc_ad, sc_nw, sm_put]
  have n5 : τ'.1 5 = τ.1 5 := by rw [hT]; simp (decide := true) only [gs_i, gs_n, gs_l, gs_u_ne, sc_start, sc_ad, sc_nw, sm_put]
  have n6 : τ'.1 6 = τ.1 6 := by rw [hT]; simp (decide := true) only [gs_i, gs_n, gs_l, gs_u_ne, sc_start, sc_ad, sc_nw, sm_put]
  have n7 : τ'.1 7 = τ.1 7 := by rw [hT]; simp (decide := true) only [gs_i, gs_n, gs_l, gs_u_ne, sc_start, sc_ad, sc_nw, sm_put]
  have n12 : τ'.1 12 = τ.1 12 := by rw [hT]; simp (decide := true) only [gs_i, gs_n, gs_l, gs_u_ne, sc_start, sc_ad, sc_nw, sm_put]
  have n13 : τ'.1 13 = τ.1 13 := by rw [hT]; simp (decide := true) only [gs_i, gs_n, gs_l, gs_u_ne, sc_start, sc_ad, sc_nw, sm_put]
  have n14 : τ'.1 14 = τ.1 14 := by rw [hT]; simp (decide := true) only [gs_i, gs_n, gs_l, gs_u_ne, sc_start, sc_ad, sc_nw, sm_put]
  have i0 : τ'.2.1 0 = τ.2.1 0 := by rw [hT]; simp (decide := true) only [gs_i, gs_n, gs_l, gs_u_ne, sc_start, sc_ad, sc_nw, sm_put]
  have i1 : τ'.2.1 1 = τ.2.1 1 := by rw [hT]; simp (decide := true) only [gs_i, gs_n, gs_l, gs_u_ne, sc_start, sc_ad, sc_nw, sm_put]
  have i2 : τ'.2.1 2 = τ.2.1 2 := by rw [hT]; simp (decide := true) only [gs_i, gs_n, gs_l, gs_u_ne, sc_start, sc_ad, sc_nw, sm_put]
  have i3 : τ'.2.1 3 = τ.2.1 3 := by rw [hT]; simp (decide := true) only [gs_i, gs_n, gs_l, gs_u_ne, sc_start, sc_ad, sc_nw, sm_put]
  have i4 : τ'.2.1 4 = τ.2.1 4 := by rw [hT]; simp (decide := true) only [gs_i, gs_n, gs_l, gs_u_ne, sc_start, sc_ad, sc_nw, sm_put]
  have i5 : τ'.2.1 5 = τ.2.1 5 := by rw [hT]; simp (decide := true) only [gs_i, gs_n, gs_l, gs_u_ne, sc_start, sc_ad, sc_nw, sm_put]
  have i6 : τ'.2.1 6 = τ.2.1 6 := by rw [hT]; simp (decide := true) only [gs_i, gs_n, gs_l, gs_u_ne, sc_start, sc_ad, sc_nw, sm_put]
  have i9 : τ'.2.1 9 = τ.2.1 9 := by rw [hT]; simp (decide := true) only [gs_i, gs_n, gs_l, gs_u_ne, sc_start, sc_ad, sc_nw, sm_put]
  have i10 : τ'.2.1 10 = τ.2.1 10 := by rw [hT]; simp (decide := true) only [gs_i, gs_n, gs_l, gs_u_ne, sc_start, sc_ad, sc_nw, sm_put]
  have i11 : τ'.2.1 11 = τ.2.1 11 := by rw [hT]; simp (decide := true) only [gs_i, gs_n, gs_l, gs_u_ne, sc_start, sc_ad, sc_nw, sm_put]
  have i12 : τ'.2.1 12 = τ.2.1 12 := by rw [hT]; simp (decide := true) only [gs_i, gs_n, gs_l, gs_u_ne, sc_start, sc_ad, sc_nw, sm_put]
  have i13 : τ'.2.1 13 = τ.2.1 13 := by rw [hT]; simp (decide := true) only [gs_i, gs_n, gs_l, gs_u_ne, sc_start, sc_ad, sc_nw, sm_put]
  have i14 : τ'.2.1 14 = τ.2.1 14 := by rw [hT]; simp (decide := true) only [gs_i, gs_n, gs_l, gs_u_ne, sc_start, sc_ad, sc_nw, sm_put]
  have i15 : τ'.2.1 15 = τ.2.1 15 := by rw [hT]; simp (decide := true) only [gs_i, gs_n, gs_l, gs_u_ne, sc_start, sc_ad, sc_nw, sm_put]
  have i19 : τ'.2.1 19 = τ.2.1 19 := by rw [hT]; simp (decide := true) only [gs_i, gs_n, gs_l, gs_u_ne, sc_start, sc_ad, sc_nw, sm_put]
  have i20 : τ'.2.1 20 = τ.2.1 20 := by rw [hT]; simp (decide := true) only [gs_i, gs_n, gs_l, gs_u_ne, sc_start, sc_ad, sc_nw, sm_put]
  have l0 : τ'.2.2 = τ.2.2 := by rw [hT]; simp (decide := true) only [gs_i, gs_n, gs_l, gs_u_ne, sc_start, sc_ad, sc_nw, sm_put]
  have m31 : μ'.1 31 = μ.1 31 := by rw [hM]; simp (decide := true) only [gs_i, gs_n, gs_l, gs_u_ne, sc_start, sc_ad, sc_nw, sm_put]
  have m100 : μ'.1 100 = μ.1 100 := by rw [hM]; simp (decide := true) only [gs_i, gs_n, gs_l, gs_u_ne, sc_start, sc_ad, sc_nw, sm_put]
  have m104 : μ'.1 104 = μ.1 104 := by rw [hM]; simp (decide := true) only [gs_i, gs_n, gs_l, gs_u_ne, sc_start, sc_ad, sc_nw, sm_put]
  have m105 : μ'.1 105 = μ.1 105 := by rw [hM]; simp (decide := true) only [gs_i, gs_n, gs_l, gs_u_ne, sc_start, sc_ad, sc_nw, sm_put]
  have m107 : μ'.1 107 = μ.1 107 := by rw [hM]; simp (decide := true) only [gs_i, gs_n, gs_l, gs_u_ne, sc_start, sc_ad, sc_nw, sm_put]
  have m108 : μ'.1 108 = μ.1 108 := by rw [hM]; simp (decide := true) only [gs_i, gs_n, gs_l, gs_u_ne, sc_start, sc_ad, sc_nw, sm_put]
  have m123 : μ'.1 123 = μ.1 123 := by rw [hM]; simp (decide := true) only [gs_i, gs_n, gs_l, gs_u_ne, sc_start, sc_ad, sc_nw, sm_put]
  have m124 : μ'.1 124 = μ.1 124 := by rw [hM]; simp (decide := true) only [gs_i, gs_n, gs_l, gs_u_ne, sc_start, sc_ad, sc_nw, sm_put]
  have k102 : μ'.2.1 102 = μ.2.1 102 := by rw [hM]; simp (decide := true) only [gs_i, gs_n, gs_l, gs_u_ne, sc_start, sc_ad, sc_nw, sm_put]
  have k103 : μ'.2.1 103 = μ.2.1 103 := by rw [hM]; simp (decide := true) only [gs_i, gs_n, gs_l, gs_u_ne, sc_start, sc_ad, sc_nw, sm_put]
  have k106 : μ'.2.1 106 = μ.2.1 106 := by rw [hM]; simp (decide := true) only [gs_i, gs_n, gs_l, gs_u_ne, sc_start, sc_ad, sc_nw, sm_put]
  have k109 : μ'.2.1 109 = μ.2.1 109 := by rw [hM]; simp (decide := true) only [gs_i, gs_n, gs_l, gs_u_ne, sc_start, sc_ad, sc_nw, sm_put]
  have k110 : μ'.2.1 110 = μ.2.1 110 := by rw [hM]; simp (decide := true) only [gs_i, gs_n, gs_l, gs_u_ne, sc_start, sc_ad, sc_nw, sm_put]
  have k111 : μ'.2.1 111 = μ.2.1 111 := by rw [hM]; simp (decide := true) only [gs_i, gs_n, gs_l, gs_u_ne, sc_start, sc_ad, sc_nw, sm_put]
  have k112 : μ'.2.1 112 = μ.2.1 112 := by rw [hM]; simp (decide := true) only [gs_i, gs_n, gs_l, gs_u_ne, sc_start, sc_ad, sc_nw, sm_put]
  have k113 : μ'.2.1 113 = μ.2.1 113 := by rw [hM]; simp (decide := true) only [gs_i, gs_n, gs_l, gs_u_ne, sc_start, sc_ad, sc_nw, sm_put]
  have k115 : μ'.2.1 115 = μ.2.1 115 := by rw [hM]; simp (decide := true) only [gs_i, gs_n, gs_l, gs_u_ne, sc_start, sc_ad, sc_nw, sm_put]
  have k116 : μ'.2.1 116 = μ.2.1 116 := by rw [hM]; simp (decide := true) only [gs_i, gs_n, gs_l, gs_u_ne, sc_start, sc_ad, sc_nw, sm_put]
  have k117 : μ'.2.1 117 = μ.2.1 117 := by rw [hM]; simp (decide := true) only [gs_i, gs_n, gs_l, gs_u_ne, sc_start, sc_ad, sc_nw, sm_put]
  have k118 : μ'.2.1 118 = μ.2.1 118 := by rw [hM]; simp (decide := true) only [gs_i, gs_n, gs_l, gs_u_ne, sc_start, sc_ad, sc_nw, sm_put]
  have k120 : μ'.2.1 120 = μ.2.1 120 := by rw [hM]; simp (decide := true) only [gs_i, gs_n, gs_l, gs_u_ne, sc_start, sc_ad, sc_nw, sm_put]
  have k121 : μ'.2.1 121 = μ.2.1 121 := by rw [hM]; simp (decide := true) only [gs_i, gs_n, gs_l, gs_u_ne, sc_start, sc_ad, sc_nw, sm_put]
  have k122 : μ'.2.1 122 = μ.2.1 122 := by rw [hM]; simp (decide := true) only [gs_i, gs_n, gs_l, gs_u_ne, sc_start, sc_ad, sc_nw, sm_put]
  have k133 : μ'.2.1 133 = μ.2.1 133 := by rw [hM]; simp (decide := true) only [gs_i, gs_n, gs_l, gs_u_ne, sc_start, sc_ad, sc_nw, sm_put]
  have f7 : ∀ a, τ'.2.1 7 a 0 = if a = x then sc_sv τ x y else τ.2.1 7 a 0 := fun a => by rw [hT]; simp (decide := true) only [sc_start, sc_ad, sc_nw, sm_put, gs_i, gs_n, gs_u_ne]; exact gu_0
  have f8 : ∀ a b, τ'.2.1 8 a b = if a = x ∧ b = y then sc_sv τ x y else τ.2.1 8 a b := fun a b => by rw [hT]; simp (decide := true) only [sc_start, sc_ad, sc_nw, sm_put, gs_i, gs_n, gs_u_ne]; exact gs_u_at
  have q101 : ∀ a, μ'.2.1 101 a 0 = if a = x then sc_sv τ x y else μ.2.1 101 a 0 := fun a => by rw [hM]; simp (decide := true) only [sc_start, sc_ad, sc_nw, sm_put, gs_i, gs_n, gs_u_ne]; exact gu_0
  have q114 : ∀ a b, b < 40 → μ'.2.1 114 (40 * a + b) 0 = if a = x ∧ b = y then 1 else μ.2.1 114 (40 * a + b) 0 := fun a b hb => by rw [hM]; simp (decide := true) only [sc_start, sc_ad, sc_nw, sm_put, gs_i, gs_n, gs_u_ne]; exact gu_ix (by omega) hb
  have q119 : ∀ a b z, b < 40 → z < 4 → μ'.2.1 119 (4 * (40 * a + b) + z) 0 = if a = x ∧ b = y ∧ z = x then sc_sv τ x y else μ.2.1 119 (4 * (40 * a + b) + z) 0 := fun a b z hb hz => by rw [hM]; simp (decide := true) only [sc_start, sc_ad, sc_nw, sm_put, gs_i, gs_n, gs_u_ne]; exact gu_i4 (by omega) hb (by omega) hz
  have e2 : τ'.1 2 0 0 = τ.1 2 0 0 + 1 := by rw [hT]; simp (decide := true) only [gs_n, gs_u_at, and_self, if_true]
  have e8 : ∀ i, τ'.1 8 i 0 = if i = τ.1 2 0 0 then g' else τ.1 8 i 0 := fun i => by rw [hT]; simp (decide := true) only [sc_start, sc_ad, sc_nw, sm_put, gs_i, gs_n, gs_u_ne]; exact gu_0
  have e9 : ∀ i, τ'.1 9 i 0 = if i = τ.1 2 0 0 then y else τ.1 9 i 0 := fun i => by rw [hT]; simp (decide := true) only [sc_start, sc_ad, sc_nw, sm_put, gs_i, gs_n, gs_u_ne]; exact gu_0
  have e16 : ∀ i, τ'.2.1 16 i 0 = if i = τ.1 2 0 0 then 1 else τ.2.1 16 i 0 := fun i => by rw [hT]; simp (decide := true) only [sc_start, sc_ad, sc_nw, sm_put, gs_i, gs_n, gs_u_ne]; exact gu_0
  have e17 : ∀ i, τ'.2.1 17 i 0 = if i = τ.1 2 0 0 then nI x else τ.2.1 17 i 0 := fun i => by rw [hT]; simp (decide := true) only [sc_start, sc_ad, sc_nw, sm_put, gs_i, gs_n, gs_u_ne]; exact gu_0
  have e18 : ∀ i, τ'.2.1 18 i 0 = if i = τ.1 2 0 0 then sc_sv τ x y else τ.2.1 18 i 0 := fun i => by rw [hT]; simp (decide := true) only [sc_start, sc_ad, sc_nw, sm_put, gs_i, gs_n, gs_u_ne]; exact gu_0
  have q125 : μ'.1 125 0 0 = τ.1 2 0 0 + 1 := by rw [hM, ← hm2]; simp (decide := true) only [sc_start, sc_ad, sc_nw, sm_put, gs_i, gs_n, gs_u_ne, gs_u_at, and_self, if_true]
  have q127 : ∀ i, μ'.1 127 i 0 = if i = τ.1 2 0 0 then y else μ.1 127 i 0 := fun i => by rw [hM, ← hm2]; simp (decide := true) only [sc_start, sc_ad, sc_nw, sm_put, gs_i, gs_n, gs_u_ne]; exact gu_0
  have q128 : ∀ i, μ'.1 128 i 0 = if i = τ.1 2 0 0 then x + 1 else μ.1 128 i 0 := fun i => by rw [hM, ← hm2]; simp (decide := true) only [sc_start, sc_ad, sc_nw, sm_put, gs_i, gs_n, gs_u_ne]; exact gu_0
  have q129 : ∀ i, μ'.1 129 i 0 = if i = τ.1 2 0 0 then g' else μ.1 129 i 0 := fun i => by rw [hM, ← hm2]; simp (decide := true) only [sc_start, sc_ad, sc_nw, sm_put, gs_i, gs_n, gs_u_ne]; exact gu_0
  have q126 : ∀ i, μ'.2.1 126 i 0 = if i = τ.1 2 0 0 then 1 else μ.2.1 126 i 0 := fun i => by rw [hM, ← hm2]; simp (decide := true) only [sc_start, sc_ad, sc_nw, sm_put, gs_i, gs_n, gs_u_ne]; exact gu_0
  have q130 : ∀ i, μ'.2.1 130 i 0 = if i = τ.1 2 0 0 then sc_sv τ x y else μ.2.1 130 i 0 := fun i => by rw [hM, ← hm2]; simp (decide := true) only [sc_start, sc_ad, sc_nw, sm_put, gs_i, gs_n, gs_u_ne]; exact gu_0
  have q131 : ∀ i, μ'.2.1 131 i 0 = if i = τ.1 2 0 0 then μ.2.1 103 (μ.1 107 y 0) 0 else μ.2.1 131 i 0 := fun i => by rw [hM, ← hm2]; simp (decide := true) only [sc_start, sc_ad, sc_nw, sm_put, gs_i, gs_n, gs_u_ne]; exact gu_0
  have q132 : ∀ i, μ'.2.1 132 i 0 = if i = τ.1 2 0 0 then μ.2.1 103 (μ.1 108 y 0) 0 else μ.2.1 132 i 0 := fun i => by rw [hM, ← hm2]; simp (decide := true) only [sc_start, sc_ad, sc_nw, sm_put, gs_i, gs_n, gs_u_ne]; exact gu_0
  have hpk : ∀ x y j, pp_k τ' x y j ↔ pp_k τ x y j := fun x y j => by unfold pp_k; rw [n3, n4, n5]
  have hVV : gw_W τ' := by
    rw [hT]
    have h9 := gw_pm (σ := sc_start τ x y) (g := g') (o := y) (k := 1) (f := nI x) (c := sc_sv τ x y) (gw_of rfl J.2.1.1) hp'
    rw [sc_pm, sc_pt, if_pos (show (sc_nw (sc_start τ x y) 4).1 2 0 0 < 240 from hfl)] at h9
    exact h9
  have hGV : gv_V μ' := by
    rw [hM]
    exact gv_put (gv_i (gv_i (gv_i J.1.1.2.2.2.2.1))) (by omega) (show x + 1 ≤ μ.1 100 0 0 by rw [J.1.1.1]; omega) (show g' < μ.1 100 0 0 by rw [J.1.1.1]; omega)
  generalize sc_sv τ x y = v at *
  obtain ⟨⟨kA, kO, kG, kV, kT, kP, kZ, kM⟩, ⟨W, S, T, L, R, Wk, A, F⟩, V, G⟩ := J
  have hne : ∀ i, i < τ.1 2 0 0 → τ.2.1 16 i 0 = 1 → ¬ (τ.1 7 (τ.1 8 i 0) (τ.1 9 i 0) - 1 = x ∧ τ.1 9 i 0 = y) := fun i hi h16 w => by
    have h9 := L i hi h16
    have h6 := h9.1
    rw [w.1, w.2, h8] at h6
    exact h9.2 h6
  refine ⟨⟨?_, ?_, ?_, ?_, ?_, ?_, ?_, ?_⟩, ⟨?_, ?_, ?_, ?_, ?_, ?_, ?_, ?_⟩, V, ?_⟩
  · exact ⟨by rw [m100, n0]; exact kA.1, by rw [m104, n1]; exact kA.2.1, by rw [q125, e2], by rw [k133, i5]; exact kA.2.2.2.1, hGV, by rw [m31]; exact kA.2.2.2.2.2⟩
  · exact jj_O_fr n1 n12 n13 n14 i0 i1 i2 i3 i4 m105 m107 m108 k106 k109 k110 k111 k112 kO
  · intro a ha
    rw [n0] at ha
    have h9 := kG a ha
    rw [f7, q101, i6, k102]
    by_cases hax : a = x
    · rw [if_pos hax, if_pos hax]; exact ⟨rfl, h9.2⟩
    · rw [if_neg hax, if_neg hax]; exact h9
  · exact jj_V_fr i19 i20 k103 k113 kV
  · exact jj_T_fr n0 n3 n5 m123 m124 kT
  · intro a b hab
    rw [n6] at hab
    have h9 := kP a b hab
    have hb := gw_p W hab
    refine ⟨?_, ?_, by rw [k115, i10]; exact h9.2.2.1, by rw [k116, i11]; exact h9.2.2.2.1, by rw [k118, i15]; exact h9.2.2.2.2.1, fun z hz => ?_⟩
    · rw [q114 a b (by omega), f8]
      by_cases hx : a = x ∧ b = y
      · rw [if_pos hx, if_pos hx, if_neg hvn]
      · rw [if_neg hx, if_neg hx]; exact h9.1
    · rw [q119 a b a (by omega) (by omega), f8]
      by_cases hx : a = x ∧ b = y
      · rw [if_pos ⟨hx.1, hx.2, hx.1⟩, if_pos hx, tv]
      · rw [if_neg hx, if_neg (fun w => hx ⟨w.1, w.2.1⟩)]; exact h9.2.1
    · rw [n7] at hz
      have h8 := h9.2.2.2.2.2 z hz
      have hz4 := gw_p W (gw_ot W hab hz)
      have hza : ¬ z = a := by
        rcases js_two W S hab with w | ⟨g2, w1, w2, w3, w4, _⟩
        · omega
        · omega
      rw [q119 a b z (by omega) (by omega), if_neg (fun w => hza (by rw [w.1]; exact w.2.2)), k117, k120, k121, k122, i9, i12, i13, i14, n13, n0]
      exact h8
  · intro a b ha hb hab
    rw [n6] at hab
    rw [n0] at ha
    have h9 := kZ a b ha hb hab
    have hx : ¬ (a = x ∧ b = y) := fun w => hab (by rw [w.1, w.2]; exact hp)
    refine ⟨by rw [q114 a b hb, if_neg hx]; exact h9.1, by rw [k115]; exact h9.2.1, by rw [k116]; exact h9.2.2.1, by rw [k117]; exact h9.2.2.2.1, by rw [k118]; exact h9.2.2.2.2.1, fun z hz => ?_⟩
    rw [q119 a b z hb hz, k120, if_neg (fun w => hx ⟨w.1, w.2.1⟩)]
    exact h9.2.2.2.2.2 z hz
  · intro i hi
    rw [e2] at hi
    by_cases hi2 : i = τ.1 2 0 0
    · unfold jj_m
      rw [e16 i, if_pos hi2, e17 i, if_pos hi2, e8 i, if_pos hi2, e9 i, if_pos hi2, e18 i, if_pos hi2, q126 i, if_pos hi2, q127 i, if_pos hi2, q128 i, if_pos hi2, q129 i, if_pos hi2, q130 i, if_pos hi2, q131 i, if_pos hi2, q132 i, if_pos hi2, n13, n0, n7]
      exact ⟨rfl, rfl, rfl, rfl, by rw [if_pos rfl], fun z => absurd z (by decide), Or.inr ⟨Or.inl rfl, by omega, h7'.1.symm⟩⟩
    · have h9 := kM i (by omega)
      unfold jj_m at h9 ⊢
      rw [e16 i, if_neg hi2, e17 i, if_neg hi2, e8 i, if_neg hi2, e9 i, if_neg hi2, e18 i, if_neg hi2, q126 i, if_neg hi2, q127 i, if_neg hi2, q128 i, if_neg hi2, q129 i, if_neg hi2, q130 i, if_neg hi2, q131 i, if_neg hi2, q132 i, if_neg hi2, n13, n0, n7]
      exact h9
  · exact hVV
  · exact pp_S_fr n0 n1 n6 n7 n13 n14 i0 S
  · obtain ⟨t1, t2, t3, t4, t5⟩ := T
    have hge : ∀ a, (τ.2.1 7 a 0).toInt ≤ (τ'.2.1 7 a 0).toInt := fun a => by
      rw [f7]
      by_cases ha : a = x
      · rw [if_pos ha, ha]; omega
      · rw [if_neg ha]; exact Int.le_refl _
    refine ⟨by rw [i5]; exact t1, fun a => ?_, by rw [i20, i5]; exact t3, by rw [n1, i2, i5]; exact t4, fun a b hab => ?_⟩
    · rw [f7, i5]
      by_cases ha : a = x
      · rw [if_pos ha]; omega
      · rw [if_neg ha]; exact t2 a
    · rw [n6] at hab
      have h9 := t5 a b hab
      have h7a := hge a
      refine ⟨?_, ?_, ?_⟩
      · rw [f8, i2]
        by_cases hx : a = x ∧ b = y
        · rw [if_pos hx, f7, if_pos hx.1, hx.2]; right; omega
        · rw [if_neg hx]
          rcases h9.1 with z | z
          · exact Or.inl z
          · exact Or.inr ⟨z.1, by omega⟩
      · rw [i9, n7]
        rcases h9.2.1 with z | z
        · exact Or.inl z
        · refine Or.inr ⟨z.1, ?_, z.2.2⟩
          rw [f8, if_neg]
          · exact z.2.1
          · intro w
            have z2 := z.2.1
            rw [w.1, w.2, h8'] at z2
            rw [w.2] at z
            exact z.2.2 z2
      · rw [i10, i9, n7]
        rcases h9.2.2 with z | z
        · exact Or.inl z
        · have hx : ¬ (a = x ∧ b = y) := fun w => z.1 (by rw [w.1, w.2]; exact h8')
          rw [f8, if_neg hx]
          exact Or.inr ⟨z.1, z.2.1, z.2.2.1, by omega⟩
  · intro i hi h16
    rw [e2] at hi
    rw [e16] at h16
    rw [e18, n7, e8, e9]
    by_cases hi2 : i = τ.1 2 0 0
    · rw [if_pos hi2, if_pos hi2, if_pos hi2, h7'.1, Nat.add_sub_cancel, f8, if_pos ⟨rfl, rfl⟩]
      exact ⟨rfl, hvn⟩
    · rw [if_neg hi2] at h16
      rw [if_neg hi2, if_neg hi2, if_neg hi2, f8, if_neg (hne i (by omega) h16)]
      exact L i (by omega) h16
  · intro a ha
    rw [n0] at ha
    obtain ⟨r1, r2, r3, r4, r5⟩ := R a ha
    rw [n3, n5, n6, i10, i11]
    refine ⟨r1, r2, r3, fun k p b hk2 hp2 hb h8b h11 => ?_, r5⟩
    by_cases hx : a = x ∧ b = y
    · have hl : sc_lt τ' a b = v := by
        unfold sc_lt
        rw [i10, f8, if_pos hx, hx.1, hx.2, if_pos (by rw [jn_m1]; exact h10)]
      rw [hl]
      have h9 := (T.2.2.2.2 a p (gw_tp W hp2)).2.2
      have h6 := (r1 k p hk2 hp2).2
      rw [hx.1] at h9 h6
      rw [hx.1]
      left
      omega
    · have hl : sc_lt τ' a b = sc_lt τ a b := by
        unfold sc_lt
        rw [i10, f8, if_neg hx]
      rw [f8, if_neg hx] at h8b
      rw [hl]
      exact r4 k p b hk2 hp2 hb h8b h11
  · exact pp_W_fr n0 n3 n4 n5 n6 i11 i12 i15 Wk
  · exact pp_A_fr n1 n3 n4 n5 n6 n12 i2 i3 i10 i15 i20 l0 A
  · have F : τ.1 2 0 0 + ti_su (fun g => ti_su (fun o => pp_p τ g o) 40) 4 ≤ 6 * τ.1 1 0 0 := F
    show τ'.1 2 0 0 + ti_su (fun g => ti_su (fun o => pp_p τ' g o) 40) 4 ≤ 6 * τ'.1 1 0 0
    have h9 := su2_dec (f := pp_p τ) (f' := pp_p τ') (g := x) (o := y) (d := 1) (by omega) (by omega) ?_ ?_
    · rw [e2, n1]; omega
    · have e8p : τ'.2.1 8 x y = v := by rw [f8, if_pos ⟨rfl, rfl⟩]
      unfold pp_p
      rw [n6, i12, e8p, if_pos hp, if_pos hp, h8, if_neg hvn, if_pos rfl]
      omega
    · intro a b hab
      unfold pp_p
      rw [n6, i12, f8, if_neg hab]
  · obtain ⟨g1, g2, g3, g4, g5⟩ := G
    have e1 : sc_rp τ' = sc_rp τ := by funext o u v; exact sc_rp_fr n13 n14 i0 i1
    have e2' : pp_e τ' = pp_e τ := by funext o k u v w; exact sc_pe_fr n13 n14 i0 i1
    have e4 : sc_ky τ' = sc_ky τ := by funext g o; exact sc_ky_fr n0 n13 n14
    refine ⟨by rw [n0]; exact g1, by rw [n0, n4, i19]; exact g2, fun y2 ja jb hy hz pa pb2 => ?_, fun a b hab => ?_, fun i hi hk2 => ?_⟩
    · rw [n1] at hy
      rw [i3] at hz
      rw [n0, n13, hpk] at pa
      rw [n0, n14, hpk] at pb2
      unfold pp_i
      rw [n0, n13, n14, i4, e1, e2']
      exact g3 y2 ja jb hy hz pa pb2
    · rw [n6] at hab
      rw [i13, n7, i12, i14, e4]
      rcases g4 a b hab with z | ⟨z1, z2, z3, z4⟩
      · exact Or.inl z
      · exact Or.inr ⟨z1, z2, z3, fun j hj => z4 j ((hpk _ _ _).mp hj)⟩
    · rw [e2] at hi
      rw [e16] at hk2
      by_cases hi2 : i = τ.1 2 0 0
      · rw [if_pos hi2] at hk2; exact absurd hk2 (by decide)
      · rw [if_neg hi2] at hk2
        rw [n7, e8, if_neg hi2, e9, if_neg hi2, e18, if_neg hi2, i12, e4]
        have h9 := g5 i (by omega) hk2
        exact ⟨h9.1, fun j hj => h9.2 j ((hpk _ _ _).mp hj)⟩
