/-! pure: send and up: what the law asks -/
theorem gr_s2 {σ : gs_T} {cl u v : Nat} {t c : Int32} : gy_R σ (sc_s2 σ cl t u v c) 5 40 ∧ (sc_s2 σ cl t u v c).1 32 = σ.1 32 ∧ (sc_s2 σ cl t u v c).2.1 5 = σ.2.1 5 := by
  have h1 : gy_R σ (sc_s1 σ cl t u v c) 1 10 := by
    refine gr_tr (a := 1) (s := 10) (b := 0) (t := 0) (gr_nw (n := 10)) (gr_of ?_ ?_)
    · unfold sc_s1; rw [gn_ne (by decide), sc_no_f (by decide) (by decide) (by decide) (by decide)]
    · unfold sc_s1; rw [gn_ne (by decide), sc_no_f (by decide) (by decide) (by decide) (by decide)]
  have h32 : (sc_s1 σ cl t u v c).1 32 = σ.1 32 := by
    unfold sc_s1; rw [gn_ne (by decide), sc_no_f (by decide) (by decide) (by decide) (by decide)]; simp (decide := true) only [sc_nw, gs_n, gs_u_ne]
  have h5 : (sc_s1 σ cl t u v c).2.1 5 = σ.2.1 5 := by
    unfold sc_s1 sc_no sc_nw; simp (decide := true) only [gs_n, gs_i, gs_l, gs_u_ne]
  have hnp : ∀ (P : gs_T) (g q : Nat), gy_R P (sc_np (sc_nw P 11) g q) 1 11 ∧ (sc_np (sc_nw P 11) g q).2.1 5 = P.2.1 5 := fun P g q => by
    refine ⟨gr_tr (a := 1) (s := 11) (b := 0) (t := 0) gr_nw (gr_of ?_ ?_), ?_⟩
    · exact sc_np_f (by decide) (by decide)
    · exact sc_np_f (by decide) (by decide)
    · unfold sc_np sc_nw; simp (decide := true) only [gs_n, gs_i, gs_u_ne]
  have h2 := hnp (sc_s1 σ cl t u v c) (sc_kf (sc_s1 σ cl t u v c) (σ.1 1 0 0)) (σ.1 1 0 0)
  refine ⟨?_, by rw [sc_s2, sc_ps_f (by decide) (by decide) (by decide), h32], ?_⟩
  · rw [sc_s2, sc_ps]
    generalize sc_kf (sc_s1 σ cl t u v c) (σ.1 1 0 0) = f at *
    generalize sc_ks (sc_s1 σ cl t u v c) (σ.1 1 0 0) = s at *
    have h3 := gr_tr h1 h2.1
    generalize sc_np (sc_nw (sc_s1 σ cl t u v c) 11) f (σ.1 1 0 0) = P at *
    unfold sc_ps2
    by_cases hfs : f = s
    · rw [if_pos hfs]
      exact gr_le (gr_tr h3 gr_pm) (by omega) (by omega)
    · rw [if_neg hfs]
      unfold sc_ps3
      have a1 : gy_R P (sc_pm P 0 (-1) f (σ.1 1 0 0) 0) 1 4 := gr_pm
      have a2 := (hnp (sc_pm P 0 (-1) f (σ.1 1 0 0) 0) s (σ.1 1 0 0)).1
      generalize sc_np (sc_nw (sc_pm P 0 (-1) f (σ.1 1 0 0) 0) 11) s (σ.1 1 0 0) = P2 at *
      have a3 : gy_R P2 (sc_pm P2 0 (-1) s (σ.1 1 0 0) 0) 1 4 := gr_pm
      generalize sc_pm P2 0 (-1) s (σ.1 1 0 0) 0 = P3 at *
      have a4 : gy_R P3 (gs_n (gs_n P3 7 f (σ.1 1 0 0) (s + 1)) 7 s (σ.1 1 0 0) (f + 1)) 0 0 := by
        refine gr_of ?_ ?_
        · rw [gn_ne (by decide), gn_ne (by decide)]
        · rw [gn_ne (by decide), gn_ne (by decide)]
      exact gr_le (gr_tr (gr_tr (gr_tr (gr_tr h3 a1) a2) a3) a4) (by omega) (by omega)
  · rw [sc_s2, sc_ps]
    generalize sc_kf (sc_s1 σ cl t u v c) (σ.1 1 0 0) = f at *
    generalize sc_ks (sc_s1 σ cl t u v c) (σ.1 1 0 0) = s at *
    have h4 := h2.2
    generalize sc_np (sc_nw (sc_s1 σ cl t u v c) 11) f (σ.1 1 0 0) = P at *
    unfold sc_ps2
    by_cases hfs : f = s
    · rw [if_pos hfs, sc_pm_i (by decide), h4, h5]
    · rw [if_neg hfs]
      unfold sc_ps3
      rw [gn_i, gn_i, sc_pm_i (by decide), (hnp _ s (σ.1 1 0 0)).2, sc_pm_i (by decide), h4, h5]
theorem gl_send {B k : Nat} {σ : gs_T} (I : gl_I B k σ) (x t a b c : Int32) : gv_V (sc_send σ x t a b c) ∧ (sc_send σ x t a b c).1 31 0 0 = 1 ∧ (sc_send σ x t a b c).1 125 0 0 + 4 ≤ 400 ∧ sc_sendr σ x t a b c = sm_sendr (sc_send σ x t a b c) x t a b c ∧ gl_I B (k + 1) (sm_send (sc_send σ x t a b c) x t a b c) := by
  have J := jJ_mu (yc_send (x := x) (k := t) (a := a) (b := b) (c := c) gy_C0) I.1
  have hn := jq_n J
  have hA := J.1.1
  have e4 : (sc_send σ x t a b c).1 104 0 0 = σ.1 1 0 0 := hA.2.1
  refine ⟨hA.2.2.2.2.1, hA.2.2.2.2.2, by rw [hA.2.2.1]; omega, ?_, ?_⟩
  · rw [sc_sendr, sm_sendr, e4]
    by_cases h : sc_snc σ x t a b c
    · rw [if_pos h, if_pos ⟨h.2, by have := h.1; omega⟩]
    · rw [if_neg h, if_neg (fun z => h ⟨by have := z.2; omega, z.1⟩)]
  · by_cases h : sc_snc σ x t a b c
    · have ed : sc_send σ x t a b c = sc_s2 σ x.toNatClampNeg t a.toNatClampNeg b.toNatClampNeg c := by rw [sc_send, if_pos h]
      have J2 := sn_main J I.1.2.1.1 h
      obtain ⟨hr, h32, h5⟩ := gr_s2 (σ := σ) (cl := x.toNatClampNeg) (u := a.toNatClampNeg) (v := b.toNatClampNeg) (t := t) (c := c)
      rw [← ed] at J2 hr h32 h5
      have es : sm_send (sc_send σ x t a b c) x t a b c = sm_po (sm_sw (sc_send σ x t a b c) x t a b c) 0 (σ.1 1 0 0) 0 (-1) ((sc_send σ x t a b c).1 100 0 0) := by
        rw [sm_send, e4, if_pos ⟨h.2, by have := h.1; omega⟩]
      have hM := ym_send (x := x) (k := t) (a := a) (b := b) (c := c) (gy_M0 (σ := sc_send σ x t a b c))
      rw [← es] at J2
      generalize sm_send (sc_send σ x t a b c) x t a b c = ν at *
      generalize sc_send σ x t a b c = σ' at *
      obtain ⟨I1, I2, I3, I4, I5⟩ := I
      refine ⟨jJ_tau hM J2, ?_, ?_, ?_, ?_⟩
      · rw [(hM.1 32 (by omega)).1, h32]; exact I2
      · rw [(hM.1 5 (by omega)).2, h5]; omega
      · rw [(hM.1 20 (by omega)).1]; have := hr.1; omega
      · rw [(hM.1 21 (by omega)).1]; have := hr.2; omega
    · have ed : sc_send σ x t a b c = σ := by rw [sc_send, if_neg h]
      have es : sm_send (sc_send σ x t a b c) x t a b c = sc_send σ x t a b c := by
        rw [sm_send, e4, if_neg (fun z => h ⟨by have := z.2; omega, z.1⟩)]
      rw [es, ed]
      exact gl_I1 I
set_option maxHeartbeats 4000000 in
theorem jU_step {τ μ : gs_T} (J : jj_J τ μ) {g : Nat} {b : Int32} (hg : g < τ.1 0 0 0) : jj_J (gs_i τ 6 g 0 b) (gs_i μ 102 g 0 (if b = 0 then 1 else 0)) := by
  obtain ⟨τ', hT⟩ : ∃ t, t = (gs_i τ 6 g 0 b) := ⟨_, rfl⟩
  obtain ⟨μ', hM⟩ : ∃ t, t = (gs_i μ 102 g 0 (if b = 0 then 1 else 0)) := ⟨_, rfl⟩
  rw [← hT, ← hM]
  have n0 : τ'.1 0 = τ.1 0 := by rw [hT]; simp (decide := true) only [gs_i, gs_n, gs_l, gs_u_ne]
  have n1 : τ'.1 1 = τ.1 1 := by rw [hT]; simp (decide := true) only [gs_i, gs_n, gs_l, gs_u_ne]
  have n2 : τ'.1 2 = τ.1 2 := by rw [hT]; simp (decide := true) only [gs_i, gs_n, gs_l, gs_u_ne]
  have n3 : τ'.1 3 = τ.1 3 := by rw [hT]; simp (decide := true) only [gs_i, gs_n, gs_l, gs_u_ne]
  have n4 : τ'.1 4 = τ.1 4 := by rw [hT]; simp (decide := true) only [gs_i, gs_n, gs_l, gs_u_ne]
  have n5 : τ'.1 5 = τ.1 5 := by rw [hT]; simp (decide := true) only [gs_i, gs_n, gs_l, gs_u_ne]
  have n6 : τ'.1 6 = τ.1 6 := by rw [hT]; simp (decide := true) only [gs_i, gs_n, gs_l, gs_u_ne]
  have n7 : τ'.1 7 = τ.1 7 := by rw [hT]; simp (decide := true) only [gs_i, gs_n, gs_l, gs_u_ne]
  have n8 : τ'.1 8 = τ.1 8 := by rw [hT]; simp (decide := true) only [gs_i, gs_n, gs_l, gs_u_ne]
  have n9 : τ'.1 9 = τ.1 9 := by rw [hT]; simp (decide := true) only [gs_i, gs_n, gs_l, gs_u_ne]
  have n12 : τ'.1 12 = τ.1 12 := by rw [hT]; simp (decide := true) only [gs_i, gs_n, gs_l, gs_u_ne]
  have n13 : τ'.1 13 = τ.1 13 := by rw [hT]; simp (decide := true) only [gs_i, gs_n, gs_l, gs_u_ne]
  have n14 : τ'.1 14 = τ.1 14 := by rw [hT]; simp (decide := true) only [gs_i, gs_n, gs_l, gs_u_ne]
  have i0 : τ'.2.1 0 = τ.2.1 0 := by rw [hT]; simp (decide := true) only [gs_i, gs_n, gs_l, gs_u_ne]
  have i1 : τ'.2.1 1 = τ.2.1 1 := by rw [hT]; simp (decide := true) only [gs_i, gs_n, gs_l, gs_u_ne]
  have i2 : τ'.2.1 2 = τ.2.1 2 := by rw [hT]; simp (decide := true) only [gs_i, gs_n, gs_l, gs_u_ne]
  have i3 : τ'.2.1 3 = τ.2.1 3 := by rw [hT]; simp (decide := true) only [gs_i, gs_n, gs_l, gs_u_ne]
  have i4 : τ'.2.1 4 = τ.2.1 4 := by rw [hT]; simp (decide := true) only [gs_i, gs_n, gs_l, gs_u_ne]
  have i5 : τ'.2.1 5 = τ.2.1 5 := by rw [hT]; simp (decide := true) only [gs_i, gs_n, gs_l, gs_u_ne]
  have i7 : τ'.2.1 7 = τ.2.1 7 := by rw [hT]; simp (decide := true) only [gs_i, gs_n, gs_l, gs_u_ne]
  have i8 : τ'.2.1 8 = τ.2.1 8 := by rw [hT]; simp (decide := true) only [gs_i, gs_n, gs_l, gs_u_ne]
  have i9 : τ'.2.1 9 = τ.2.1 9 := by rw [hT]; simp (decide := true) only [gs_i, gs_n, gs_l, gs_u_ne]
  have i10 : τ'.2.1 10 = τ.2.1 10 := by rw [hT]; simp (decide := true) only [gs_i, gs_n, gs_l, gs_u_ne]
  have i11 : τ'.2.1 11 = τ.2.1 11 := by rw [hT]; simp (decide := true) only [gs_i, gs_n, gs_l, gs_u_ne]
  have i12 : τ'.2.1 12 = τ.2.1 12 := by rw [hT]; simp (decide := true) only [gs_i, gs_n, gs_l, gs_u_ne]
  have i13 : τ'.2.1 13 = τ.2.1 13 := by rw [hT]; simp (decide := true) only [gs_i, gs_n, gs_l, gs_u_ne]
  have i14 : τ'.2.1 14 = τ.2.1 14 := by rw [hT]; simp (decide := true) only [gs_i, gs_n, gs_l, gs_u_ne]
  have i15 : τ'.2.1 15 = τ.2.1 15 := by rw [hT]; simp (decide := true) only [gs_i, gs_n, gs_l, gs_u_ne]
  have i16 : τ'.2.1 16 = τ.2.1 16 := by rw [hT]; simp (decide := true) only [gs_i, gs_n, gs_l, gs_u_ne]
  have i17 : τ'.2.1 17 = τ.2.1 17 := by rw [hT]; simp (decide := true) only [gs_i, gs_n, gs_l, gs_u_ne]
  have i18 : τ'.2.1 18 = τ.2.1 18 := by rw [hT]; simp (decide := true) only [gs_i, gs_n, gs_l, gs_u_ne]
  have i19 : τ'.2.1 19 = τ.2.1 19 := by rw [hT]; simp (decide := true) only [gs_i, gs_n, gs_l, gs_u_ne]
  have i20 : τ'.2.1 20 = τ.2.1 20 := by rw [hT]; simp (decide := true) only [gs_i, gs_n, gs_l, gs_u_ne]
  have l0 : τ'.2.2 = τ.2.2 := by rw [hT]; simp (decide := true) only [gs_i, gs_n, gs_l, gs_u_ne]
  have m31 : μ'.1 31 = μ.1 31 := by rw [hM]; simp (decide := true) only [gs_i, gs_n, gs_l, gs_u_ne]
  have m100 : μ'.1 100 = μ.1 100 := by rw [hM]; simp (decide := true) only [gs_i, gs_n, gs_l, gs_u_ne]
  have m104 : μ'.1 104 = μ.1 104 := by rw [hM]; simp (decide := true) only [gs_i, gs_n, gs_l, gs_u_ne]
  have m105 : μ'.1 105 = μ.1 105 := by rw [hM]; simp (decide := true) only [gs_i, gs_n, gs_l, gs_u_ne]
  have m107 : μ'.1 107 = μ.1 107 := by rw [hM]; simp (decide := true) only [gs_i, gs_n, gs_l, gs_u_ne]
  have m108 : μ'.1 108 = μ.1 108 := by rw [hM]; simp (decide := true) only [gs_i, gs_n, gs_l, gs_u_ne]
  have m123 : μ'.1 123 = μ.1 123 := by rw [hM]; simp (decide := true) only [gs_i, gs_n, gs_l, gs_u_ne]
  have m124 : μ'.1 124 = μ.1 124 := by rw [hM]; simp (decide := true) only [gs_i, gs_n, gs_l, gs_u_ne]
  have m125 : μ'.1 125 = μ.1 125 := by rw [hM]; simp (decide := true) only [gs_i, gs_n, gs_l, gs_u_ne]
  have m127 : μ'.1 127 = μ.1 127 := by rw [hM]; simp (decide := true) only [gs_i, gs_n, gs_l, gs_u_ne]
  have m128 : μ'.1 128 = μ.1 128 := by rw [hM]; simp (decide := true) only [gs_i, gs_n, gs_l, gs_u_ne]
  have m129 : μ'.1 129 = μ.1 129 := by rw [hM]; simp (decide := true) only [gs_i, gs_n, gs_l, gs_u_ne]
  have k101 : μ'.2.1 101 = μ.2.1 101 := by rw [hM]; simp (decide := true) only [gs_i, gs_n, gs_l, gs_u_ne]
  have k103 : μ'.2.1 103 = μ.2.1 103 := by rw [hM]; simp (decide := true) only [gs_i, gs_n, gs_l, gs_u_ne]
  have k106 : μ'.2.1 106 = μ.2.1 106 := by rw [hM]; simp (decide := true) only [gs_i, gs_n, gs_l, gs_u_ne]
  have k109 : μ'.2.1 109 = μ.2.1 109 := by rw [hM]; simp (decide := true) only [gs_i, gs_n, gs_l, gs_u_ne]
  have k110 : μ'.2.1 110 = μ.2.1 110 := by rw [hM]; simp (decide := true) only [gs_i, gs_n, gs_l, gs_u_ne]
  have k111 : μ'.2.1 111 = μ.2.1 111 := by rw [hM]; simp (decide := true) only [gs_i, gs_n, gs_l, gs_u_ne]
  have k112 : μ'.2.1 112 = μ.2.1 112 := by rw [hM]; simp (decide := true) only [gs_i, gs_n, gs_l, gs_u_ne]
  have k113 : μ'.2.1 113 = μ.2.1 113 := by rw [hM]; simp (decide := true) only [gs_i, gs_n, gs_l, gs_u_ne]
  have k114 : μ'.2.1 114 = μ.2.1 114 := by rw [hM]; simp (decide := true) only [gs_i, gs_n, gs_l, gs_u_ne]
  have k115 : μ'.2.1 115 = μ.2.1 115 := by rw [hM]; simp (decide := true) only [gs_i, gs_n, gs_l, gs_u_ne]
  have k116 : μ'.2.1 116 = μ.2.1 116 := by rw [hM]; simp (decide := true) only [gs_i, gs_n, gs_l, gs_u_ne]
  have k117 : μ'.2.1 117 = μ.2.1 117 := by rw [hM]; simp (decide := true) only [gs_i, gs_n, gs_l, gs_u_ne]
  have k118 : μ'.2.1 118 = μ.2.1 118 := by rw [hM]; simp (decide := true) only [gs_i, gs_n, gs_l, gs_u_ne]
  have k119 : μ'.2.1 119 = μ.2.1 119 := by rw [hM]; simp (decide := true) only [gs_i, gs_n, gs_l, gs_u_ne]
  have k120 : μ'.2.1 120 = μ.2.1 120 := by rw [hM]; simp (decide := true) only [gs_i, gs_n, gs_l, gs_u_ne]
  have k121 : μ'.2.1 121 = μ.2.1 121 := by rw [hM]; simp (decide := true) only [gs_i, gs_n, gs_l, gs_u_ne]
  have k122 : μ'.2.1 122 = μ.2.1 122 := by rw [hM]; simp (decide := true) only [gs_i, gs_n, gs_l, gs_u_ne]
  have k126 : μ'.2.1 126 = μ.2.1 126 := by rw [hM]; simp (decide := true) only [gs_i, gs_n, gs_l, gs_u_ne]
  have k130 : μ'.2.1 130 = μ.2.1 130 := by rw [hM]; simp (decide := true) only [gs_i, gs_n, gs_l, gs_u_ne]
  have k131 : μ'.2.1 131 = μ.2.1 131 := by rw [hM]; simp (decide := true) only [gs_i, gs_n, gs_l, gs_u_ne]
  have k132 : μ'.2.1 132 = μ.2.1 132 := by rw [hM]; simp (decide := true) only [gs_i, gs_n, gs_l, gs_u_ne]
  have k133 : μ'.2.1 133 = μ.2.1 133 := by rw [hM]; simp (decide := true) only [gs_i, gs_n, gs_l, gs_u_ne]
  have e6 : ∀ x, τ'.2.1 6 x 0 = if x = g then b else τ.2.1 6 x 0 := fun x => by rw [hT]; exact gu_0
  have q102 : ∀ x, μ'.2.1 102 x 0 = if x = g then (if b = 0 then 1 else 0) else μ.2.1 102 x 0 := fun x => by rw [hM]; exact gu_0
  obtain ⟨⟨kA, kO, kG, kV, kT, kP, kZ, kM⟩, ⟨W, S, T, L, R, Wk, A, F⟩, V, G⟩ := J
  refine ⟨⟨?_, ?_, ?_, ?_, ?_, ?_, ?_, ?_⟩, ⟨?_, ?_, ?_, ?_, ?_, ?_, ?_, ?_⟩, V, ?_⟩
  · refine ⟨?_, ?_, ?_, ?_, ?_, ?_⟩
    · rw [m100, n0]; exact kA.1
    · rw [m104, n1]; exact kA.2.1
    · rw [m125, n2]; exact kA.2.2.1
    · rw [k133, i5]; exact kA.2.2.2.1
    · rw [hM]; exact kA.2.2.2.2.1
    · rw [m31]; exact kA.2.2.2.2.2
  · exact jj_O_fr n1 n12 n13 n14 i0 i1 i2 i3 i4 m105 m107 m108 k106 k109 k110 k111 k112 kO
  · intro x hx
    rw [n0] at hx
    have h9 := kG x hx
    refine ⟨by rw [k101, i7]; exact h9.1, ?_⟩
    rw [e6, q102]
    by_cases hxg : x = g
    · rw [if_pos hxg, if_pos hxg]
    · rw [if_neg hxg, if_neg hxg]; exact h9.2
  · exact jj_V_fr i19 i20 k103 k113 kV
  · exact jj_T_fr n0 n3 n5 m123 m124 kT
  · exact jj_P_fr n0 n6 n7 n13 i8 i9 i10 i11 i12 i13 i14 i15 k114 k115 k116 k117 k118 k119 k120 k121 k122 kP
  · exact jj_Z_fr n0 n6 k114 k115 k116 k117 k118 k119 k120 kZ
  · exact jj_M_fr n0 n2 n7 n8 n9 n13 i16 i17 i18 m127 m128 m129 k126 k130 k131 k132 kM
  · rw [hT]
    exact gw_of rfl W
  · exact pp_S_fr n0 n1 n6 n7 n13 n14 i0 S
  · exact pp_T_fr n1 n6 n7 i2 i5 i7 i8 i9 i10 i20 T
  · exact pp_L_fr n2 n7 n8 n9 i8 i16 i18 L
  · exact pp_R_fr n0 n3 n5 n6 i8 i10 i11 R
  · exact pp_W_fr n0 n3 n4 n5 n6 i11 i12 i15 Wk
  · exact pp_A_fr n1 n3 n4 n5 n6 n12 i2 i3 i10 i15 i20 l0 A
  · exact pp_F_fr n1 n2 n6 i8 i12 F
  · exact pp_G_fr n0 n1 n2 n3 n4 n5 n6 n7 n8 n9 n13 n14 i0 i1 i3 i4 i12 i13 i14 i16 i18 i19 G
theorem gl_up {B k : Nat} {σ : gs_T} (I : gl_I B k σ) (x b : Int32) : gv_V (sc_up σ x b) ∧ (sc_up σ x b).1 31 0 0 = 1 ∧ (sc_up σ x b).1 100 0 0 = σ.1 0 0 0 ∧ gl_I B (k + 1) (sm_up (sc_up σ x b) x b) := by
  have J := jJ_mu (yc_up (x := x) (b := b) gy_C0) I.1
  have hn := jq_n J
  have hA := J.1.1
  have e1 : (sc_up σ x b).1 100 0 0 = σ.1 0 0 0 := hA.1
  refine ⟨hA.2.2.2.2.1, hA.2.2.2.2.2, e1, ?_⟩
  by_cases h : 0 ≤ x ∧ x < nI (σ.1 0 0 0)
  · have hj := jq_in h (by omega)
    have ed : sc_up σ x b = gs_i σ 6 x.toNatClampNeg 0 b := by rw [sc_up, if_pos h]
    have J2 := jU_step J (g := x.toNatClampNeg) (b := b) hj
    rw [← ed] at J2
    have es : sm_up (sc_up σ x b) x b = gs_i (sc_up σ x b) 102 x.toNatClampNeg 0 (if b = 0 then 1 else 0) := by rw [sm_up, e1, if_pos h]
    rw [← es] at J2
    have hM := ym_up (x := x) (b := b) (gy_M0 (σ := sc_up σ x b))
    obtain ⟨I1, I2, I3, I4, I5⟩ := I
    have f1 : (sc_up σ x b).1 = σ.1 := by rw [ed]; rfl
    have f5 : (sc_up σ x b).2.1 5 = σ.2.1 5 := by rw [ed]; exact gi_ne (by decide)
    generalize sm_up (sc_up σ x b) x b = ν at *
    generalize sc_up σ x b = σ' at *
    refine ⟨jJ_tau hM J2, ?_, ?_, ?_, ?_⟩
    · rw [(hM.1 32 (by omega)).1, f1]; exact I2
    · rw [(hM.1 5 (by omega)).2, f5]; omega
    · rw [(hM.1 20 (by omega)).1, f1]; omega
    · rw [(hM.1 21 (by omega)).1, f1]; omega
  · have ed : sc_up σ x b = σ := by rw [sc_up, if_neg h]
    have es : sm_up (sc_up σ x b) x b = sc_up σ x b := by rw [sm_up, e1, if_neg h]
    rw [es, ed]
    exact gl_I1 I
