/-! pure: bring and twice, as the law calls them -/
set_option maxHeartbeats 4000000 in
theorem j32_step {τ μ : gs_T} (J : jj_J τ μ) {v : Nat} : jj_J (gs_n τ 32 0 0 v) μ := by
  obtain ⟨τ', hT⟩ : ∃ t, t = (gs_n τ 32 0 0 v) := ⟨_, rfl⟩
  obtain ⟨μ', hM⟩ : ∃ t, t = μ := ⟨_, rfl⟩
  rw [← hT, ← hM]
  have n0 : τ'.1 0 = τ.1 0 := by rw [hT]; simp (decide := true) only [gs_i, gs_n, gs_l, gs_u_ne]
  have n1 : τ'.1 1 = τ.1 1 := by rw [hT]; simp (decide := true) only [gs_i, gs_n, gs_l, gs_u_ne]
  have n2 : τ'.1 2 = τ.1 2 := by rw [hT]; simp (decide := true) only [gs_i, gs_n, gs_l, gs_u_ne]
  have n3 : τ'.1 3 = τ.1 3 := by rw [hT]; simp (decide := true) only [gs_i, gs_n, gs_l, gs_u_ne]
  have n4 : τ'.1 4 = τ.1 4 := by rw [hT]; simp (decide := true) only [gs_i, gs_n, gs_l, gs_u_ne]
  have n5 : τ'.1 5 = τ.1 5 := by rw [hT]; simp (decide := true) only [gs_i, gs_n, gs_l, gs_u_ne]
  have n6 : τ'.1 6 = τ.1 6 := by rw [hT]; simp (decide := true) only [gs_i, gs_n, gs_l, gs_u_ne]
  have n7 : τ'.1 7 = τ.1 7 := by rw [hT]; simp (decide := true) only [gs_i, gs_n, gs_l, gs_u_ne]
  have n8 : τ'.1 8 = τ.1 8 := by rw [hT]; simp (decide := true) only [gs_i, gs_n, gs_l, gs_u_ne]
  have n9 : τ'.1 9 = τ.1 9 := by rw [hT]; simp (decide := true) only [gs_i, gs_n, gs_l, gs_u_ne]
  have n12 : τ'.1 12 = τ.1 12 := by rw [hT]; simp (decide := true) only [gs_i, gs_n, gs_l, gs_u_ne]
  have n13 : τ'.1 13 = τ.1 13 := by rw [hT]; simp (decide := true) only [gs_i, gs_n, gs_l, gs_u_ne]
  have n14 : τ'.1 14 = τ.1 14 := by rw [hT]; simp (decide := true) only [gs_i, gs_n, gs_l, gs_u_ne]
  have i0 : τ'.2.1 0 = τ.2.1 0 := by rw [hT]; simp (decide := true) only [gs_i, gs_n, gs_l, gs_u_ne]
  have i1 : τ'.2.1 1 = τ.2.1 1 := by rw [hT]; simp (decide := true) only [gs_i, gs_n, gs_l, gs_u_ne]
  have i2 : τ'.2.1 2 = τ.2.1 2 := by rw [hT]; simp (decide := true) only [gs_i, gs_n, gs_l, gs_u_ne]
  have i3 : τ'.2.1 3 = τ.2.1 3 := by rw [hT]; simp (decide := true) only [gs_i, gs_n, gs_l, gs_u_ne]
  have i4 : τ'.2.1 4 = τ.2.1 4 := by rw [hT]; simp (decide := true) only [gs_i, gs_n, gs_l, gs_u_ne]
  have i5 : τ'.2.1 5 = τ.2.1 5 := by rw [hT]; simp (decide := true) only [gs_i, gs_n, gs_l, gs_u_ne]
  have i6 : τ'.2.1 6 = τ.2.1 6 := by rw [hT]; simp (decide := true) only [gs_i, gs_n, gs_l, gs_u_ne]
  have i7 : τ'.2.1 7 = τ.2.1 7 := by rw [hT]; simp (decide := true) only [gs_i, gs_n, gs_l, gs_u_ne]
  have i8 : τ'.2.1 8 = τ.2.1 8 := by rw [hT]; simp (decide := true) only [gs_i, gs_n, gs_l, gs_u_ne]
  have i9 : τ'.2.1 9 = τ.2.1 9 := by rw [hT]; simp (decide := true) only [gs_i, gs_n, gs_l, gs_u_ne]
  have i10 : τ'.2.1 10 = τ.2.1 10 := by rw [hT]; simp (decide := true) only [gs_i, gs_n, gs_l, gs_u_ne]
  have i11 : τ'.2.1 11 = τ.2.1 11 := by rw [hT]; simp (decide := true) only [gs_i, gs_n, gs_l, gs_u_ne]
  have i12 : τ'.2.1 12 = τ.2.1 12 := by rw [hT]; simp (decide := true) only [gs_i, gs_n, gs_l, gs_u_ne]
  have i13 : τ'.2.1 13 = τ.2.1 13 := by rw [hT]; simp (decide := true) only [gs_i, gs_n, gs_l, gs_u_ne]
  have i14 : τ'.2.1 14 = τ.2.1 14 := by rw [hT]; simp (decide := true) only [gs_i, gs_n, gs_l, gs_u_ne]
  have i15 : τ'.2.1 15 = τ.2.1 15 := by rw [hT]; simp (decide := true) only [gs_i, gs_n, gs_l, gs_u_ne]
  have i16 : τ'.2.1 16 = τ.2.1 16 := by rw [hT]; simp (decide := true) only [gs_i, gs_n, gs_l, gs_u_ne]
  have i17 : τ'.2.1 17 = τ.2.1 17 := by rw [hT]; simp (decide := true) only [gs_i, gs_n, gs_l, gs_u_ne]
  have i18 : τ'.2.1 18 = τ.2.1 18 := by rw [hT]; simp (decide := true) only [gs_i, gs_n, gs_l, gs_u_ne]
  have i19 : τ'.2.1 19 = τ.2.1 19 := by rw [hT]; simp (decide := true) only [gs_i, gs_n, gs_l, gs_u_ne]
  have i20 : τ'.2.1 20 = τ.2.1 20 := by rw [hT]; simp (decide := true) only [gs_i, gs_n, gs_l, gs_u_ne]
  have l0 : τ'.2.2 = τ.2.2 := by rw [hT]; simp (decide := true) only [gs_i, gs_n, gs_l, gs_u_ne]
  have m31 : μ'.1 31 = μ.1 31 := by rw [hM]
  have m100 : μ'.1 100 = μ.1 100 := by rw [hM]
  have m104 : μ'.1 104 = μ.1 104 := by rw [hM]
  have m105 : μ'.1 105 = μ.1 105 := by rw [hM]
  have m107 : μ'.1 107 = μ.1 107 := by rw [hM]
  have m108 : μ'.1 108 = μ.1 108 := by rw [hM]
  have m123 : μ'.1 123 = μ.1 123 := by rw [hM]
  have m124 : μ'.1 124 = μ.1 124 := by rw [hM]
  have m125 : μ'.1 125 = μ.1 125 := by rw [hM]
  have m127 : μ'.1 127 = μ.1 127 := by rw [hM]
  have m128 : μ'.1 128 = μ.1 128 := by rw [hM]
  have m129 : μ'.1 129 = μ.1 129 := by rw [hM]
  have k101 : μ'.2.1 101 = μ.2.1 101 := by rw [hM]
  have k102 : μ'.2.1 102 = μ.2.1 102 := by rw [hM]
  have k103 : μ'.2.1 103 = μ.2.1 103 := by rw [hM]
  have k106 : μ'.2.1 106 = μ.2.1 106 := by rw [hM]
  have k109 : μ'.2.1 109 = μ.2.1 109 := by rw [hM]
  have k110 : μ'.2.1 110 = μ.2.1 110 := by rw [hM]
  have k111 : μ'.2.1 111 = μ.2.1 111 := by rw [hM]
  have k112 : μ'.2.1 112 = μ.2.1 112 := by rw [hM]
  have k113 : μ'.2.1 113 = μ.2.1 113 := by rw [hM]
  have k114 : μ'.2.1 114 = μ.2.1 114 := by rw [hM]
  have k115 : μ'.2.1 115 = μ.2.1 115 := by rw [hM]
  have k116 : μ'.2.1 116 = μ.2.1 116 := by rw [hM]
  have k117 : μ'.2.1 117 = μ.2.1 117 := by rw [hM]
  have k118 : μ'.2.1 118 = μ.2.1 118 := by rw [hM]
  have k119 : μ'.2.1 119 = μ.2.1 119 := by rw [hM]
  have k120 : μ'.2.1 120 = μ.2.1 120 := by rw [hM]
  have k121 : μ'.2.1 121 = μ.2.1 121 := by rw [hM]
  have k122 : μ'.2.1 122 = μ.2.1 122 := by rw [hM]
  have k126 : μ'.2.1 126 = μ.2.1 126 := by rw [hM]
  have k130 : μ'.2.1 130 = μ.2.1 130 := by rw [hM]
  have k131 : μ'.2.1 131 = μ.2.1 131 := by rw [hM]
  have k132 : μ'.2.1 132 = μ.2.1 132 := by rw [hM]
  have k133 : μ'.2.1 133 = μ.2.1 133 := by rw [hM]
  obtain ⟨⟨kA, kO, kG, kV, kT, kP, kZ, kM⟩, ⟨W, S, T, L, R, Wk, A, F⟩, V, G⟩ := J
  refine ⟨⟨?_, ?_, ?_, ?_, ?_, ?_, ?_, ?_⟩, ⟨?_, ?_, ?_, ?_, ?_, ?_, ?_, ?_⟩, V, ?_⟩
  · refine ⟨?_, ?_, ?_, ?_, ?_, ?_⟩
    · rw [m100, n0]; exact kA.1
    · rw [m104, n1]; exact kA.2.1
    · rw [m125, n2]; exact kA.2.2.1
    · rw [k133, i5]; exact kA.2.2.2.1
    · rw [hM]; exact kA.2.2.2.2.1
    · rw [m31]; exact kA.2.2.2.2.2
  · exact jj_O_fr n1 n12 n13 n14 i0 i1 i2 i3 i4 m105 m107 m108 k106 k109 k110 k111 k112 kO
  · exact jj_G_fr n0 i6 i7 k101 k102 kG
  · exact jj_V_fr i19 i20 k103 k113 kV
  · exact jj_T_fr n0 n3 n5 m123 m124 kT
  · exact jj_P_fr n0 n6 n7 n13 i8 i9 i10 i11 i12 i13 i14 i15 k114 k115 k116 k117 k118 k119 k120 k121 k122 kP
  · exact jj_Z_fr n0 n6 k114 k115 k116 k117 k118 k119 k120 kZ
  · exact jj_M_fr n0 n2 n7 n8 n9 n13 i16 i17 i18 m127 m128 m129 k126 k130 k131 k132 kM
  · rw [hT]
    exact gw_oth W (by decide)
  · exact pp_S_fr n0 n1 n6 n7 n13 n14 i0 S
  · exact pp_T_fr n1 n6 n7 i2 i5 i7 i8 i9 i10 i20 T
  · exact pp_L_fr n2 n7 n8 n9 i8 i16 i18 L
  · exact pp_R_fr n0 n3 n5 n6 i8 i10 i11 R
  · exact pp_W_fr n0 n3 n4 n5 n6 i11 i12 i15 Wk
  · exact pp_A_fr n1 n3 n4 n5 n6 n12 i2 i3 i10 i15 i20 l0 A
  · exact pp_F_fr n1 n2 n6 i8 i12 F
  · exact pp_G_fr n0 n1 n2 n3 n4 n5 n6 n7 n8 n9 n13 n14 i0 i1 i3 i4 i12 i13 i14 i16 i18 i19 G
theorem gi_at {σ : gs_T} {f i j : Nat} {v : Int32} : (gs_i σ f i j v).2.1 f i j = v := by
  simp (decide := true) only [gs_i, gs_u_at, and_self, if_true]
theorem gn_at {σ : gs_T} {f i j v : Nat} : (gs_n σ f i j v).1 f i j = v := by
  simp (decide := true) only [gs_n, gs_u_at, and_self, if_true]
theorem gn_ne {σ : gs_T} {f i j v t : Nat} (h : t ≠ f) : (gs_n σ f i j v).1 t = σ.1 t := gs_u_ne h
theorem gn_i {σ : gs_T} {f i j v : Nat} : (gs_n σ f i j v).2.1 = σ.2.1 := rfl
theorem rv_5 {σ : gs_T} : (sc_rv σ).2.1 5 = σ.2.1 5 := by
  unfold sc_rv
  split
  · exact gi_ne (by decide)
  · split
    · rw [gi_ne (by decide), gi_ne (by decide)]
    · split
      · split
        · unfold sc_start; rw [gi_ne (by decide), gi_ne (by decide)]
        · rw [sc_pm_i (by decide)]; unfold sc_start; rw [gi_ne (by decide), gi_ne (by decide)]
      · rfl
theorem mf_5 {σ : gs_T} {g m : Nat} : (sc_mf σ g m).2.1 5 = σ.2.1 5 := by
  induction m with
  | zero => rfl
  | succ m ih =>
    rw [sc_mf, sc_mf1]
    split
    · rw [gi_ne (by decide), gi_ne (by decide), ih]
    · exact ih
theorem ta_5 {g m k : Nat} {σ : gs_T} : (sc_ta g m k σ).2.1 5 = σ.2.1 5 := by
  induction m generalizing σ k with
  | zero => rfl
  | succ m ih =>
    rw [sc_ta]
    split
    · rfl
    · split
      · rfl
      · rw [ih]; simp (decide := true) only [sc_tk1, gs_n, gs_i, gs_u_ne]
theorem wa_5 {g m k : Nat} {σ : gs_T} : (sc_wa g m k σ).2.1 5 = σ.2.1 5 ∧ (sc_wa g m k σ).1 3 = σ.1 3 := by
  induction m generalizing σ k with
  | zero => exact ⟨rfl, rfl⟩
  | succ m ih =>
    rw [sc_wa]
    split
    · exact ⟨pv_i (by decide) (by decide) (by decide) (by decide), pv_n (by decide) (by decide) (by decide) (by decide) (by decide) (by decide) (by decide)⟩
    · refine ⟨ih.1.trans ?_, ih.2.trans ?_⟩ <;> simp (decide := true) only [gs_n, gs_u_ne, wo_N, wo_i, pv_i, pv_n]
theorem d1_i {σ : gs_T} {j : Nat} {b : Int32} {t : Nat} (h : t ≠ 16 ∧ t ≠ 17 ∧ t ≠ 18) : (sc_d1 σ j b).2.1 t = σ.2.1 t := by
  unfold sc_d1
  split
  · exact shk_i h.1 h.2.1 h.2.2
  · rfl
theorem d1_n {σ : gs_T} {j : Nat} {b : Int32} {t : Nat} (h : sc_pf t = false) : (sc_d1 σ j b).1 t = σ.1 t := by
  unfold sc_d1
  split
  · exact sc_dr_f h
  · rfl
theorem d6_5 {σ : gs_T} {j : Nat} {b : Int32} : (sc_d6 σ j b).2.1 5 0 0 = σ.2.1 5 0 0 + 1 ∧ (sc_d6 σ j b).1 3 = (sc_d5 σ j b).1 3 := by
  refine ⟨?_, by rw [sc_d6]; exact wa_5.2⟩
  rw [sc_d6, wa_5.1, sc_d5, ta_5, sc_d4, mf_5, rv_5, sc_d2, gi_at, d1_i (by decide)]
/-- what holds of the state behind k calls -/
def gl_I (B k : Nat) (σ : gs_T) : Prop := jj_J σ σ ∧ ¬ σ.1 32 0 0 = 1 ∧ (σ.2.1 5 0 0).toInt ≤ (k : Int) ∧ σ.1 20 0 0 ≤ B + 100 + 50 * k ∧ σ.1 21 0 0 ≤ 9000 + 200 * k
theorem gl_I1 {B k : Nat} {σ : gs_T} (I : gl_I B k σ) : gl_I B (k + 1) σ := by
  obtain ⟨h1, h2, h3, h4, h5⟩ := I
  exact ⟨h1, h2, by omega, by omega, by omega⟩
theorem jd_main {σ μd : gs_T} {V : Nat → Nat → Nat → Int32} {j i : Nat} {b f : Int32} (K : jj_K (sc_d1 (sc_hd σ j) j b) μd V) (H : jj_h (sc_d1 (sc_hd σ j) j b) μd V (σ.2.1 16 j 0) f (σ.1 8 j 0) (σ.1 9 j 0) (σ.2.1 18 j 0) i) (hb : (σ.2.1 5 0 0).toInt + 1 < 2 ^ 20) : ∃ q n, q < 4 ∧ sm_pre μd i q n ∧ jj_J (sc_d6 (sc_hd σ j) j b) (sm_lp (σ.1 8 j 0) n (sm_rb μd i q)) ∧ μd.1 129 i 0 = σ.1 8 j 0 := by
  have h16 : (sc_hd σ j).1 16 0 0 = σ.1 8 j 0 := by unfold sc_hd; simp (decide := true) only [gs_i, gs_n, gs_u_ne, gs_u_at, and_self, if_true]
  have h17 : (sc_hd σ j).1 17 0 0 = σ.1 9 j 0 := by unfold sc_hd; simp (decide := true) only [gs_i, gs_n, gs_u_ne, gs_u_at, and_self, if_true]
  have h23 : (sc_hd σ j).2.1 23 0 0 = σ.2.1 16 j 0 := by unfold sc_hd; simp (decide := true) only [gs_i, gs_n, gs_u_ne, gs_u_at, and_self, if_true]
  have h25 : (sc_hd σ j).2.1 25 0 0 = σ.2.1 18 j 0 := by unfold sc_hd; simp (decide := true) only [gs_i, gs_n, gs_u_ne, gs_u_at, and_self, if_true]
  have h5 : (sc_hd σ j).2.1 5 0 0 = σ.2.1 5 0 0 := by unfold sc_hd; simp (decide := true) only [gs_i, gs_n, gs_u_ne]
  have e16 : (sc_d1 (sc_hd σ j) j b).1 16 0 0 = σ.1 8 j 0 := by rw [d1_n (by decide)]; exact h16
  have e17 : (sc_d1 (sc_hd σ j) j b).1 17 0 0 = σ.1 9 j 0 := by rw [d1_n (by decide)]; exact h17
  have e23 : (sc_d1 (sc_hd σ j) j b).2.1 23 0 0 = σ.2.1 16 j 0 := by rw [d1_i (by decide)]; exact h23
  have e25 : (sc_d1 (sc_hd σ j) j b).2.1 25 0 0 = σ.2.1 18 j 0 := by rw [d1_i (by decide)]; exact h25
  have e5 : (sc_d1 (sc_hd σ j) j b).2.1 5 0 0 = σ.2.1 5 0 0 := by rw [d1_i (by decide)]; exact h5
  have h9 := jd_gen K (f := f) (i := i) (by rw [e16, e17, e23, e25]; exact H) (by rw [e5]; exact hb)
  rw [e16, ← h16] at h9
  obtain ⟨q, n, h1, h2, h3, h4⟩ := h9
  rw [h16] at h4
  refine ⟨q, n, h1, h2, ?_, h4⟩
  rw [← h16]
  unfold sc_d6 sc_d5 sc_d4 sc_d2
  exact h3
theorem gl_dI {B k : Nat} {σ ν : gs_T} {j : Nat} {b : Int32} (I : gl_I B k σ) (J : jj_J (gs_n (sc_d6 (sc_hd σ j) j b) 32 0 0 0) ν) (h : gy_M (gs_n (sc_d6 (sc_hd σ j) j b) 32 0 0 0) ν) : gl_I B (k + 1) ν := by
  obtain ⟨I1, I2, I3, I4, I5⟩ := I
  have hW := J.2.1.1
  have e5 := d6_5 (σ := sc_hd σ j) (j := j) (b := b)
  have h5 : (sc_hd σ j).2.1 5 0 0 = σ.2.1 5 0 0 := by unfold sc_hd; simp (decide := true) only [gs_i, gs_n, gs_u_ne]
  have e3 : ∀ g, (sc_d5 (sc_hd σ j) j b).1 3 g 0 ≤ 40 := fun g => by
    have h9 := gw_tc hW g
    have h8 : (gs_n (sc_d6 (sc_hd σ j) j b) 32 0 0 0).1 3 = (sc_d6 (sc_hd σ j) j b).1 3 := by simp (decide := true) only [gs_n, gs_u_ne]
    rw [h8, e5.2] at h9
    exact h9
  have hr := gr_d6 e3
  have g20 : ν.1 20 = (sc_d6 (sc_hd σ j) j b).1 20 := by
    rw [(h.1 20 (by omega)).1]; simp (decide := true) only [gs_n, gs_u_ne]
  have g21 : ν.1 21 = (sc_d6 (sc_hd σ j) j b).1 21 := by
    rw [(h.1 21 (by omega)).1]; simp (decide := true) only [gs_n, gs_u_ne]
  have k20 : (sc_hd σ j).1 20 = σ.1 20 := by unfold sc_hd; simp (decide := true) only [gs_i, gs_n, gs_u_ne]
  have k21 : (sc_hd σ j).1 21 = σ.1 21 := by unfold sc_hd; simp (decide := true) only [gs_i, gs_n, gs_u_ne]
  have T := I1.2.1.2.2.1.1
  refine ⟨jJ_tau h J, ?_, ?_, ?_, ?_⟩
  · rw [(h.1 32 (by omega)).1]
    simp (decide := true) only [gs_n, gs_u_at, and_self, if_true]
  · rw [(h.1 5 (by omega)).2]
    rw [gn_i, e5.1, h5, ti_inc T.1 (by omega)]
    omega
  · rw [g20]
    have := hr.1
    rw [k20] at this
    omega
  · rw [g21]
    have := hr.2
    rw [k21] at this
    omega
theorem jb_c {σ μ : gs_T} (J : jj_J σ μ) (x : Int32) : sm_bc μ x ↔ ((0 ≤ x ∧ x < nI (σ.1 2 0 0)) ∧ ¬ σ.2.1 6 (σ.1 8 x.toNatClampNeg 0) 0 = 0) := by
  have hn := jq_n J
  have W := J.2.1.1
  unfold sm_bc sv_in
  rw [J.1.1.2.2.1]
  by_cases hx : 0 ≤ x ∧ x < nI (σ.1 2 0 0)
  · have hj := jq_in hx (by omega)
    have h9 := J.1.2.2.2.2.2.2.2 _ hj
    have hg := (gw_p W (gw_mp W (gw_m W hj))).1
    rw [h9.2.2.2.1, (J.1.2.2.1 _ hg).2]
    by_cases h6 : σ.2.1 6 (σ.1 8 x.toNatClampNeg 0) 0 = 0
    · rw [if_pos h6]; exact ⟨fun z => absurd z.2 (by decide), fun z => absurd h6 z.2⟩
    · rw [if_neg h6]; exact ⟨fun z => ⟨z.1, h6⟩, fun z => ⟨z.1, rfl⟩⟩
  · exact ⟨fun z => absurd z.1 hx, fun z => absurd z.1 hx⟩
theorem bs_399 {σ μ : gs_T} {V : Nat → Nat → Nat → Int32} {τ : gs_T} {k f : Int32} {x y : Nat} {c : Int32} {j : Nat} (hj : j < μ.1 125 0 0) (hm : μ.1 125 0 0 ≤ 240) (H : jj_h τ μ V k f x y c j) (hτ : σ = sc_dr τ j) : jj_h σ (sm_bs μ j) V k f x y c 399 := by
  subst hτ
  refine jh_fr H ?_ ?_ ?_ ?_ ?_ ?_ ?_ ?_ ?_ ?_ ?_ ?_ ?_ ?_ ?_ ?_ ?_
  iterate 8 exact sc_dr_f (by decide)
  iterate 2 exact shk_i (by decide) (by decide) (by decide)
  · rw [bs_2_1_126, if_neg (by omega), if_pos rfl]
  · rw [bs_1_127, if_neg (by omega), if_pos rfl]
  · rw [bs_1_128, if_neg (by omega), if_pos rfl]
  · rw [bs_1_129, if_neg (by omega), if_pos rfl]
  · rw [bs_2_1_130, if_neg (by omega), if_pos rfl]
  · rw [bs_2_1_131, if_neg (by omega), if_pos rfl]
  · rw [bs_2_1_132, if_neg (by omega), if_pos rfl]
theorem hd_h {σ μ : gs_T} {V : Nat → Nat → Nat → Int32} {k f : Int32} {x y : Nat} {c : Int32} {i j : Nat} (H : jj_h σ μ V k f x y c i) : jj_h (sc_hd σ j) μ V k f x y c i := by
  refine jh_fr H ?_ ?_ ?_ ?_ ?_ ?_ ?_ ?_ ?_ ?_ rfl rfl rfl rfl rfl rfl rfl <;> (unfold sc_hd; simp (decide := true) only [gs_i, gs_n, gs_u_ne])
theorem gl_bring {B k : Nat} {σ : gs_T} (hk : k ≤ 512) (I : gl_I B k σ) (x : Int32) : ∃ q n, q < 4 ∧ gv_V (sc_del σ x 0) ∧ (sc_del σ x 0).1 31 0 0 = 1 ∧ (sc_del σ x 0).1 125 0 0 < 400 ∧ (sm_bc (sc_del σ x 0) x → sm_pre (sm_bs (sc_del σ x 0) x.toNatClampNeg) 399 q n) ∧ sc_delr σ x 0 = sm_bringr (sc_del σ x 0) x q n ∧ gl_I B (k + 1) (sm_bring (sc_del σ x 0) x q n) := by
  have J := jJ_mu (yc_del (x := x) (b := 0) gy_C0) I.1
  have hn := jq_n J
  have hA := J.1.1
  have hc := jb_c J x
  have h125 : (sc_del σ x 0).1 125 0 0 < 400 := by rw [hA.2.2.1]; omega
  obtain ⟨j, hjx⟩ : ∃ j, x.toNatClampNeg = j := ⟨_, rfl⟩
  rw [hjx] at hc ⊢
  by_cases h1 : (0 ≤ x ∧ x < nI (σ.1 2 0 0)) ∧ ¬ σ.2.1 6 (σ.1 8 j 0) 0 = 0
  · have hj := jq_in h1.1 (by omega)
    rw [hjx] at hj
    have hbc := hc.mpr h1
    have ed : (sc_del σ x 0) = gs_n (sc_d6 (sc_hd σ j) j 0) 32 0 0 0 := by
      rw [sc_del, hjx, if_pos h1.1, if_neg h1.2]
    have er : sc_delr σ x 0 = nI ((sc_d6 (sc_hd σ j) j 0).1 2 0 0) := by
      rw [sc_delr, hjx, if_pos h1.1, if_neg h1.2]
    have hI5 := I.2.2.1
    obtain ⟨V, G⟩ := J.2.2
    have K : jj_K σ (sc_del σ x 0) V := ⟨J.1, J.2.1, G⟩
    generalize (sc_del σ x 0) = σ' at *
    have KH := jH_step K (i := j)
    have hN2 : (sc_hd σ j).1 2 0 0 = σ.1 2 0 0 := by unfold sc_hd; simp (decide := true) only [gs_i, gs_n, gs_u_ne]
    have KD := jD_step KH (j := j) (by rw [hN2]; exact hj)
    have HD := bs_399 (σ := sc_d1 (sc_hd σ j) j 0) (j := j) (by rw [hA.2.2.1]; exact hj) (by rw [hA.2.2.1]; omega) (hd_h (j := j) (jh_of K hj)) (if_pos rfl)
    have KD : jj_K (sc_d1 (sc_hd σ j) j 0) (sm_bs σ' j) V := by rw [sc_d1, if_pos rfl]; exact KD
    obtain ⟨q, n, a1, a2, a3, a4⟩ := jd_main KD HD (by omega)
    have eb : sm_bring σ' x q n = sm_lp (σ.1 8 j 0) n (sm_rb (sm_bs σ' j) 399 q) := by
      rw [sm_bring, if_pos hbc, hjx, a4]
    refine ⟨q, n, a1, hA.2.2.2.2.1, hA.2.2.2.2.2, h125, fun _ => a2, ?_, ?_⟩
    · rw [er, sm_bringr, if_pos hbc, eb, a3.1.1.2.2.1]
    · refine gl_dI (j := j) (b := 0) I (by rw [eb]; exact j32_step a3) ?_
      rw [← ed]; exact ym_bring gy_M0
  · have ed : (sc_del σ x 0) = σ := by
      rw [sc_del, hjx]
      by_cases h2 : 0 ≤ x ∧ x < nI (σ.1 2 0 0)
      · by_cases h3 : σ.2.1 6 (σ.1 8 j 0) 0 = 0
        · rw [if_pos h2, if_pos h3]
        · exact absurd ⟨h2, h3⟩ h1
      · rw [if_neg h2]
    have er : sc_delr σ x 0 = -1 := by
      rw [sc_delr, hjx]
      by_cases h2 : 0 ≤ x ∧ x < nI (σ.1 2 0 0)
      · by_cases h3 : σ.2.1 6 (σ.1 8 j 0) 0 = 0
        · rw [if_pos h2, if_pos h3]
        · exact absurd ⟨h2, h3⟩ h1
      · rw [if_neg h2]
    have hnb : ¬ sm_bc (sc_del σ x 0) x := fun z => h1 (hc.mp z)
    refine ⟨0, 0, by omega, hA.2.2.2.2.1, hA.2.2.2.2.2, h125, fun z => absurd z hnb, by rw [er, sm_bringr, if_neg hnb], ?_⟩
    rw [sm_bring, if_neg hnb, ed]
    exact gl_I1 I
theorem gl_twice {B k : Nat} {σ : gs_T} (hk : k ≤ 512) (I : gl_I B k σ) (x : Int32) : ∃ q n, q < 4 ∧ gv_V (sc_del σ x 1) ∧ (sc_del σ x 1).1 31 0 0 = 1 ∧ (sc_del σ x 1).1 125 0 0 < 400 ∧ (sm_bc (sc_del σ x 1) x → sm_pre (sc_del σ x 1) x.toNatClampNeg q n) ∧ sc_delr σ x 1 = sm_twicer (sc_del σ x 1) x q n ∧ gl_I B (k + 1) (sm_twice (sc_del σ x 1) x q n) := by
  have J := jJ_mu (yc_del (x := x) (b := 1) gy_C0) I.1
  have hn := jq_n J
  have hA := J.1.1
  have hc := jb_c J x
  have h125 : (sc_del σ x 1).1 125 0 0 < 400 := by rw [hA.2.2.1]; omega
  obtain ⟨j, hjx⟩ : ∃ j, x.toNatClampNeg = j := ⟨_, rfl⟩
  rw [hjx] at hc ⊢
  by_cases h1 : (0 ≤ x ∧ x < nI (σ.1 2 0 0)) ∧ ¬ σ.2.1 6 (σ.1 8 j 0) 0 = 0
  · have hj := jq_in h1.1 (by omega)
    rw [hjx] at hj
    have hbc := hc.mpr h1
    have ed : (sc_del σ x 1) = gs_n (sc_d6 (sc_hd σ j) j 1) 32 0 0 0 := by
      rw [sc_del, hjx, if_pos h1.1, if_neg h1.2]
    have er : sc_delr σ x 1 = nI ((sc_d6 (sc_hd σ j) j 1).1 2 0 0) := by
      rw [sc_delr, hjx, if_pos h1.1, if_neg h1.2]
    have hI5 := I.2.2.1
    obtain ⟨V, G⟩ := J.2.2
    have K : jj_K σ (sc_del σ x 1) V := ⟨J.1, J.2.1, G⟩
    generalize (sc_del σ x 1) = σ' at *
    have KH := jH_step K (i := j)
    have e1 : sc_d1 (sc_hd σ j) j 1 = sc_hd σ j := by rw [sc_d1, if_neg (by decide)]
    have KD : jj_K (sc_d1 (sc_hd σ j) j 1) σ' V := by rw [e1]; exact KH
    have HD : jj_h (sc_d1 (sc_hd σ j) j 1) σ' V (σ.2.1 16 j 0) (σ.2.1 17 j 0) (σ.1 8 j 0) (σ.1 9 j 0) (σ.2.1 18 j 0) j := by rw [e1]; exact hd_h (jh_of K hj)
    obtain ⟨q, n, a1, a2, a3, a4⟩ := jd_main KD HD (by omega)
    have eb : sm_twice σ' x q n = sm_lp (σ.1 8 j 0) n (sm_rb σ' j q) := by
      rw [sm_twice, if_pos hbc, hjx, a4]
    refine ⟨q, n, a1, hA.2.2.2.2.1, hA.2.2.2.2.2, h125, fun _ => a2, ?_, ?_⟩
    · rw [er, sm_twicer, if_pos hbc, eb, a3.1.1.2.2.1]
    · refine gl_dI (j := j) (b := 1) I (by rw [eb]; exact j32_step a3) ?_
      rw [← ed]; exact ym_twice gy_M0
  · have ed : (sc_del σ x 1) = σ := by
      rw [sc_del, hjx]
      by_cases h2 : 0 ≤ x ∧ x < nI (σ.1 2 0 0)
      · by_cases h3 : σ.2.1 6 (σ.1 8 j 0) 0 = 0
        · rw [if_pos h2, if_pos h3]
        · exact absurd ⟨h2, h3⟩ h1
      · rw [if_neg h2]
    have er : sc_delr σ x 1 = -1 := by
      rw [sc_delr, hjx]
      by_cases h2 : 0 ≤ x ∧ x < nI (σ.1 2 0 0)
      · by_cases h3 : σ.2.1 6 (σ.1 8 j 0) 0 = 0
        · rw [if_pos h2, if_pos h3]
        · exact absurd ⟨h2, h3⟩ h1
      · rw [if_neg h2]
    have hnb : ¬ sm_bc (sc_del σ x 1) x := fun z => h1 (hc.mp z)
    refine ⟨0, 0, by omega, hA.2.2.2.2.1, hA.2.2.2.2.2, h125, fun z => absurd z hnb, by rw [er, sm_twicer, if_neg hnb], ?_⟩
    rw [sm_twice, if_neg hnb, ed]
    exact gl_I1 I
