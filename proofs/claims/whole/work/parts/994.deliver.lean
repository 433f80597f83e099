/-! pure: bring and twice -/
theorem gi_ne {σ : gs_T} {f i j t : Nat} {v : Int32} (h : t ≠ f) : (gs_i σ f i j v).2.1 t = σ.2.1 t := gs_u_ne h
theorem gi_c {σ : gs_T} {f a b : Nat} {w v : Int32} (hf : f ≠ 133) : gs_i (gs_i σ f a b w) 133 0 0 v = gs_i (gs_i σ 133 0 0 v) f a b w := by
  unfold gs_i
  refine Prod.ext rfl (Prod.ext ?_ rfl)
  funext k i j
  show gs_u (gs_u σ.2.1 f a b w) 133 0 0 v k i j = gs_u (gs_u σ.2.1 133 0 0 v) f a b w k i j
  by_cases hk : k = 133
  · rw [gs_u_ne (f := gs_u σ.2.1 133 0 0 v) (k' := k) (k := f) (by omega), hk, gs_u_at, gs_u_at, gs_u_ne (by omega)]
  · rw [gs_u_ne (k := 133) (k' := k) hk]
    by_cases hk2 : k = f
    · rw [hk2, gs_u_at, gs_u_at, gs_u_ne (k := 133) hf]
    · rw [gs_u_ne (k := f) hk2, gs_u_ne (k := f) hk2, gs_u_ne (k := 133) hk]
theorem gn_c {σ : gs_T} {f a b w : Nat} {v : Int32} : gs_i (gs_n σ f a b w) 133 0 0 v = gs_n (gs_i σ 133 0 0 v) f a b w := rfl
theorem put_c {σ : gs_T} {k : Int32} {o f g : Nat} {t v : Int32} : gs_i (sm_put σ k o f g t) 133 0 0 v = sm_put (gs_i σ 133 0 0 v) k o f g t := by
  have e : (gs_i σ 133 0 0 v).2.1 103 = σ.2.1 103 := gi_ne (by decide)
  unfold sm_put
  rw [e, gn_c, gi_c (by decide), gi_c (by decide), gi_c (by decide), gn_c, gn_c, gn_c, gi_c (by decide)]
  rfl
theorem of_c {σ : gs_T} {v : Int32} {g o : Nat} : gv_of (gs_i σ 133 0 0 v) g o ↔ gv_of σ g o := by
  have e : (gs_i σ 133 0 0 v).2.1 106 = σ.2.1 106 := gi_ne (by decide)
  unfold gv_of
  rw [e]
  exact Iff.rfl
theorem po_c {σ : gs_T} {k : Int32} {o f : Nat} {t v : Int32} : ∀ n, gs_i (sm_po σ k o f t n) 133 0 0 v = sm_po (gs_i σ 133 0 0 v) k o f t n := by
  intro n
  induction n with
  | zero => rfl
  | succ n ih =>
    rw [sm_po, sm_po, sm_po1, sm_po1]
    have h : (¬ f = n + 1 ∧ gv_of (sm_po (gs_i σ 133 0 0 v) k o f t n) n o) ↔ (¬ f = n + 1 ∧ gv_of (sm_po σ k o f t n) n o) := by
      rw [po_of2, po_of2, of_c]
    by_cases hc : ¬ f = n + 1 ∧ gv_of (sm_po σ k o f t n) n o
    · rw [if_pos hc, if_pos (h.mpr hc), put_c, ih]
    · rw [if_neg hc, if_neg (fun z => hc (h.mp z)), ih]
theorem cs_c {σ : gs_T} {g o : Nat} {v : Int32} : gs_i (sm_cs σ g o) 133 0 0 v = sm_cs (gs_i σ 133 0 0 v) g o := by
  have e1 : (gs_i σ 133 0 0 v).2.1 114 = σ.2.1 114 := gi_ne (by decide)
  have e2 : sm_cv (gs_i σ 133 0 0 v) g o = sm_cv σ g o := by
    have a1 : (gs_i σ 133 0 0 v).2.1 101 = σ.2.1 101 := gi_ne (by decide)
    have a2 : (gs_i σ 133 0 0 v).2.1 110 = σ.2.1 110 := gi_ne (by decide)
    unfold sm_cv
    rw [a1, a2]
  unfold sm_cs
  rw [e1, e2]
  by_cases hc : σ.2.1 114 (40 * g + o) 0 = 0
  · rw [if_pos hc, if_pos hc, po_c, gi_c (by decide), gi_c (by decide), gi_c (by decide)]
    rfl
  · rw [if_neg hc, if_neg hc]
theorem rc_c {σ : gs_T} {i q : Nat} {v : Int32} : gs_i (sm_rc σ i q) 133 0 0 v = sm_rc (gs_i σ 133 0 0 v) i q := by
  have a1 : (gs_i σ 133 0 0 v).2.1 126 = σ.2.1 126 := gi_ne (by decide)
  have a2 : (gs_i σ 133 0 0 v).2.1 130 = σ.2.1 130 := gi_ne (by decide)
  have a3 : (gs_i σ 133 0 0 v).2.1 120 = σ.2.1 120 := gi_ne (by decide)
  have a4 : (gs_i σ 133 0 0 v).2.1 131 = σ.2.1 131 := gi_ne (by decide)
  have a5 : (gs_i σ 133 0 0 v).2.1 132 = σ.2.1 132 := gi_ne (by decide)
  have b1 : (gs_i σ 133 0 0 v).1 = σ.1 := rfl
  unfold sm_rc
  rw [a1, a2, a3, a4, a5, b1]
  by_cases h0 : σ.2.1 126 i 0 = 0
  · rw [if_pos h0, if_pos h0, cs_c]
  · rw [if_neg h0, if_neg h0]
    by_cases h1 : σ.2.1 126 i 0 = 1
    · rw [if_pos h1, if_pos h1, gi_c (by decide)]
    · rw [if_neg h1, if_neg h1]
      by_cases h2 : σ.2.1 120 (4 * (40 * σ.1 129 i 0 + σ.1 127 i 0) + q) 0 = 0
      · rw [if_pos h2, if_pos h2, gi_c (by decide), gi_c (by decide), gi_c (by decide)]
      · rw [if_neg h2, if_neg h2]
theorem put_133 {σ : gs_T} {k : Int32} {o f g : Nat} {t : Int32} : (sm_put σ k o f g t).2.1 133 = σ.2.1 133 := by
  simp (decide := true) only [sm_put, gs_i, gs_n, gs_u_ne]
theorem po_133 {σ : gs_T} {k : Int32} {o f : Nat} {t : Int32} : ∀ n, (sm_po σ k o f t n).2.1 133 = σ.2.1 133 := by
  intro n
  induction n with
  | zero => rfl
  | succ n ih =>
    rw [sm_po, sm_po1]
    split
    · rw [put_133, ih]
    · exact ih
theorem rc_133 {σ : gs_T} {i q : Nat} : (sm_rc σ i q).2.1 133 = σ.2.1 133 := by
  unfold sm_rc sm_cs
  split
  · split
    · rw [po_133]; simp (decide := true) only [gs_i, gs_u_ne]
    · rfl
  · split
    · simp (decide := true) only [gs_i, gs_u_ne]
    · split
      · simp (decide := true) only [gs_i, gs_u_ne]
      · rfl
theorem rb_eq {σ : gs_T} {i q : Nat} : sm_rb σ i q = sm_rc (gs_i σ 133 0 0 (σ.2.1 133 0 0 + 1)) i q := by
  rw [sm_rb, rc_133, rc_c]
set_option maxHeartbeats 1000000 in
theorem jr_rv {τ μ : gs_T} {V : Nat → Nat → Nat → Int32} (K : jj_K τ μ V) {f : Int32} {i q : Nat} (H : jj_h τ μ V (τ.2.1 23 0 0) f (τ.1 16 0 0) (τ.1 17 0 0) (τ.2.1 25 0 0) i) (hq : ¬ μ.2.1 126 i 0 = 0 → μ.1 128 i 0 = q + 1) (hb7 : ∀ g, (τ.2.1 7 g 0).toInt < (τ.2.1 5 0 0).toInt) (hb2 : ∀ o, o < τ.1 1 0 0 → (τ.2.1 2 o 0).toInt < (τ.2.1 5 0 0).toInt) : jj_J (sc_rv τ) (sm_rc μ i q) := by
  have J := jk_J K
  have W := J.2.1.1
  have hn := jq_n J
  obtain ⟨⟨m1, m2, m3, m4, m5, m6, m7⟩, hp, hL, hG⟩ := H
  have hgo := gw_p W hp
  have e0 : μ.1 100 0 0 = τ.1 0 0 0 := J.1.1.1
  unfold sc_rv sm_rc
  rw [m1] at hq
  rw [m1, m2, m4]
  generalize τ.1 16 0 0 = x at *
  generalize τ.1 17 0 0 = y at *
  generalize τ.2.1 25 0 0 = c at *
  rcases m7 with ⟨hk, _⟩ | ⟨hk, h7n, h128⟩
  · rw [hk, if_neg (show ¬ (0 : Int32) = 1 by decide), if_neg (show ¬ (0 : Int32) = 2 by decide), if_pos rfl]
    have h114 := (J.1.2.2.2.2.2.1 x y hp).1
    unfold sm_cs
    by_cases h8 : τ.2.1 8 x y = -1
    · rw [if_pos h8] at h114
      rw [if_pos h8, if_pos h114, cv_eq J hp]
      have hof : ∀ a, gv_of (gs_i (gs_i (gs_i μ 114 (40 * x + y) 0 1) 101 x 0 (sc_sv τ x y)) 119 (4 * (40 * x + y) + x) 0 (sc_sv τ x y)) a y ↔ τ.1 6 a y = 1 := fun a => by
        refine Iff.trans ?_ (jq_of J hgo.2)
        unfold gv_of
        simp (decide := true) only [gs_i, gs_u_ne]
      rcases js_two W J.2.1.2.1 hp with ⟨w1, w2⟩ | ⟨g', w1, w2, w3, w4, w5⟩
      · rw [if_pos w1, po_zero (fun a ha z => ?_)]
        · exact jR0s_step J hp h8 (hb7 x) (hb2 y hgo.2)
        · have := w2 a ((hof a).mp z.2); omega
      · have hfl := jy_fl J hp (Or.inl h8)
        have hg' := gw_p W w3
        rw [if_neg (by omega), sc_pm, sc_pt, if_pos (show (sc_nw (sc_start τ x y) 4).1 2 0 0 < 240 from hfl), w1, Nat.add_sub_cancel, po_one (q := g') (by rw [e0]; exact hg'.1) (fun a ha => ?_)]
        · exact jR0d_step J hp h8 w1 (hb7 x) (hb2 y hgo.2)
        · rw [hof]
          constructor
          · intro z
            rcases w5 a z.2 with v | v
            · have := z.1; omega
            · exact v
          · intro z
            rw [z]; exact ⟨by omega, w3⟩
    · rw [if_neg h8] at h114
      rw [if_neg h8, if_neg (by rw [h114]; decide)]
      exact J
  · rcases hk with hk | hk
    · rw [hk, if_pos rfl, if_neg (show ¬ (1 : Int32) = 0 by decide), if_pos rfl]
      have hq := hq (by rw [hk]; decide)
      have h7 : τ.1 7 x y = q + 1 := by omega
      have hL := hL hk
      rw [hk, if_pos rfl] at m5
      rw [h7, Nat.add_sub_cancel] at hL
      rw [m5]
      exact jR1_step J hp h7 hL.1 hL.2
    · rw [hk, if_neg (show ¬ (2 : Int32) = 1 by decide), if_pos rfl, if_neg (show ¬ (2 : Int32) = 0 by decide), if_neg (show ¬ (2 : Int32) = 1 by decide)]
      have hq := hq (by rw [hk]; decide)
      have h7 : τ.1 7 x y = q + 1 := by omega
      have hG := hG hk
      have m6 := m6 hk
      rw [h7, Nat.add_sub_cancel] at hG
      have h120 := ((J.1.2.2.2.2.2.1 x y hp).2.2.2.2.2 q h7).2.2.1
      by_cases h13 : τ.2.1 13 x y = 0
      · rw [if_pos (by rw [h120]; exact h13)]
        refine jk_J (jR2_step K hp h7 ?_ hG.1 hG.2)
        rw [m6]
        by_cases hz : τ.1 13 y 0 % τ.1 0 0 0 = q
        · rw [if_pos hz, if_pos (by omega)]
        · rw [if_neg hz, if_neg (by omega)]
      · rw [if_neg (by rw [h120]; exact h13)]
        rcases K.2.2.2.2.2.1 x y hp with z | ⟨z1, z2, z3, z4⟩
        · exact absurd z h13
        · rw [h7, Nat.add_sub_cancel] at z3 z4
          have hpq := gw_ot W hp h7
          rcases (J.2.1.2.2.2.2.2.1 q (gw_p W hpq).1).2.2 y hpq with w | ⟨w, j, hj⟩
          · rw [w] at z3; exact absurd z3 (by decide)
          · have e14 : c = τ.2.1 14 x y := by rw [z4 j hj]; exact hG.2 j hj
            have s1 : gs_i τ 14 x y c = τ := gi_self e14
            rw [s1, gi_self z1.symm]
            exact J
/-- from the hand on -/
theorem jd_gen {τ μ : gs_T} {V : Nat → Nat → Nat → Int32} (K : jj_K τ μ V) {f : Int32} {i : Nat} (H : jj_h τ μ V (τ.2.1 23 0 0) f (τ.1 16 0 0) (τ.1 17 0 0) (τ.2.1 25 0 0) i) (hb : (τ.2.1 5 0 0).toInt + 1 < 2 ^ 20) : ∃ q n, q < 4 ∧ sm_pre μ i q n ∧ jj_J (sc_wa (τ.1 16 0 0) ((sc_ta (τ.1 16 0 0) (40 - (sc_mf (sc_rv (gs_i τ 5 0 0 (τ.2.1 5 0 0 + 1))) (τ.1 16 0 0) 40).1 3 (τ.1 16 0 0) 0) ((sc_mf (sc_rv (gs_i τ 5 0 0 (τ.2.1 5 0 0 + 1))) (τ.1 16 0 0) 40).1 3 (τ.1 16 0 0) 0) (sc_mf (sc_rv (gs_i τ 5 0 0 (τ.2.1 5 0 0 + 1))) (τ.1 16 0 0) 40)).1 3 (τ.1 16 0 0) 0 - (sc_ta (τ.1 16 0 0) (40 - (sc_mf (sc_rv (gs_i τ 5 0 0 (τ.2.1 5 0 0 + 1))) (τ.1 16 0 0) 40).1 3 (τ.1 16 0 0) 0) ((sc_mf (sc_rv (gs_i τ 5 0 0 (τ.2.1 5 0 0 + 1))) (τ.1 16 0 0) 40).1 3 (τ.1 16 0 0) 0) (sc_mf (sc_rv (gs_i τ 5 0 0 (τ.2.1 5 0 0 + 1))) (τ.1 16 0 0) 40)).1 4 (τ.1 16 0 0) 0) ((sc_ta (τ.1 16 0 0) (40 - (sc_mf (sc_rv (gs_i τ 5 0 0 (τ.2.1 5 0 0 + 1))) (τ.1 16 0 0) 40).1 3 (τ.1 16 0 0) 0) ((sc_mf (sc_rv (gs_i τ 5 0 0 (τ.2.1 5 0 0 + 1))) (τ.1 16 0 0) 40).1 3 (τ.1 16 0 0) 0) (sc_mf (sc_rv (gs_i τ 5 0 0 (τ.2.1 5 0 0 + 1))) (τ.1 16 0 0) 40)).1 4 (τ.1 16 0 0) 0) (sc_ta (τ.1 16 0 0) (40 - (sc_mf (sc_rv (gs_i τ 5 0 0 (τ.2.1 5 0 0 + 1))) (τ.1 16 0 0) 40).1 3 (τ.1 16 0 0) 0) ((sc_mf (sc_rv (gs_i τ 5 0 0 (τ.2.1 5 0 0 + 1))) (τ.1 16 0 0) 40).1 3 (τ.1 16 0 0) 0) (sc_mf (sc_rv (gs_i τ 5 0 0 (τ.2.1 5 0 0 + 1))) (τ.1 16 0 0) 40))) (sm_lp (τ.1 16 0 0) n (sm_rb μ i q)) ∧ μ.1 129 i 0 = τ.1 16 0 0 := by
  have J := jk_J K
  have W := J.2.1.1
  have hn := jq_n J
  have e0 : μ.1 100 0 0 = τ.1 0 0 0 := J.1.1.1
  have h128 := gv_fr J.1.1.2.2.2.2.1 i
  have hgo := gw_p W H.2.1
  have hm7 := H.1.2.2.2.2.2.2
  have hq : ¬ μ.2.1 126 i 0 = 0 → μ.1 128 i 0 = (μ.1 128 i 0 - 1) + 1 := fun z => by
    rw [H.1.1] at z
    rcases hm7 with w | w
    · exact absurd w.1 z
    · have := w.2.1; have := w.2.2; omega
  have K1 := jC_step K hb
  have T := J.2.1.2.2.1
  have e5 : ((gs_i τ 5 0 0 (τ.2.1 5 0 0 + 1)).2.1 5 0 0).toInt = (τ.2.1 5 0 0).toInt + 1 := by
    have e : (gs_i τ 5 0 0 (τ.2.1 5 0 0 + 1)).2.1 5 0 0 = τ.2.1 5 0 0 + 1 := by simp (decide := true) only [gs_i, gs_u_at, and_self, if_true]
    rw [e]
    exact ti_inc T.1.1 (by omega)
  have u23 : (gs_i τ 5 0 0 (τ.2.1 5 0 0 + 1)).2.1 23 = τ.2.1 23 := gi_ne (by decide)
  have u25 : (gs_i τ 5 0 0 (τ.2.1 5 0 0 + 1)).2.1 25 = τ.2.1 25 := gi_ne (by decide)
  have u7 : (gs_i τ 5 0 0 (τ.2.1 5 0 0 + 1)).2.1 7 = τ.2.1 7 := gi_ne (by decide)
  have u2 : (gs_i τ 5 0 0 (τ.2.1 5 0 0 + 1)).2.1 2 = τ.2.1 2 := gi_ne (by decide)
  have H1 : jj_h (gs_i τ 5 0 0 (τ.2.1 5 0 0 + 1)) (gs_i μ 133 0 0 (μ.2.1 133 0 0 + 1)) V ((gs_i τ 5 0 0 (τ.2.1 5 0 0 + 1)).2.1 23 0 0) f (τ.1 16 0 0) (τ.1 17 0 0) ((gs_i τ 5 0 0 (τ.2.1 5 0 0 + 1)).2.1 25 0 0) i := by
    rw [u23, u25]
    refine jh_fr H rfl rfl rfl rfl rfl rfl rfl rfl ?_ ?_ ?_ rfl rfl rfl ?_ ?_ ?_ <;> simp (decide := true) only [gs_i, gs_u_ne]
  have J2 := jr_rv K1 (q := μ.1 128 i 0 - 1) H1 (fun z => hq (by
    have e : (gs_i μ 133 0 0 (μ.2.1 133 0 0 + 1)).2.1 126 = μ.2.1 126 := gi_ne (by decide)
    rw [e] at z; exact z)) (fun g => by have := T.2.1 g; rw [u7]; omega) (fun o ho => by have := T.2.2.2.1 o ho; rw [u2]; omega)
  rw [← rb_eq] at J2
  have hg2 : τ.1 16 0 0 < (sc_rv (gs_i τ 5 0 0 (τ.2.1 5 0 0 + 1))).1 0 0 0 := by
    rw [sc_rv_f (by decide)]; exact hgo.1
  obtain ⟨ν, n, h, J3⟩ := jl_all J2 hg2
  refine ⟨μ.1 128 i 0 - 1, n, by omega, ⟨hq, by rw [J.1.1.2.2.1]; omega, ?_, ?_⟩, ?_, H.1.2.2.2.1⟩
  · exact J2.1.1.2.2.2.2.2
  · rw [H.1.2.2.2.1]; exact h.1
  · rw [h.2]; exact J3
