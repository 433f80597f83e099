/-! pure: the loop that works out; the three loops -/
theorem pv_n {σ : gs_T} {g o t : Nat} (h1 : t ≠ 2) (h2 : t ≠ 8) (h3 : t ≠ 9) (h4 : t ≠ 10) (h5 : t ≠ 18) (h6 : t ≠ 20) (h7 : t ≠ 21) : (sc_pv σ g o).1 t = σ.1 t := by
  unfold sc_pv
  split
  · rfl
  · split
    · unfold sc_pm sc_pt
      split <;> simp only [sc_ad, sc_nw, gs_i, gs_n, gs_u_ne h1, gs_u_ne h2, gs_u_ne h3, gs_u_ne h4, gs_u_ne h5, gs_u_ne h6, gs_u_ne h7]
    · rfl
theorem pv_i {σ : gs_T} {g o t : Nat} (h1 : t ≠ 12) (h2 : t ≠ 16) (h3 : t ≠ 17) (h4 : t ≠ 18) : (sc_pv σ g o).2.1 t = σ.2.1 t := by
  unfold sc_pv
  split
  · rfl
  · split
    · unfold sc_pm sc_pt
      split <;> simp only [sc_ad, sc_nw, gs_i, gs_n, gs_u_ne h1, gs_u_ne h2, gs_u_ne h3, gs_u_ne h4]
    · rfl
theorem ew_fr {τ τ' : gs_T} {g : Nat} (n6 : τ'.1 6 = τ.1 6) (i8 : τ'.2.1 8 = τ.2.1 8) (i10 : τ'.2.1 10 = τ.2.1 10) (i11 : τ'.2.1 11 = τ.2.1 11) : ∀ m, sc_ew τ' g m = sc_ew τ g m := by
  intro m
  have hl : ∀ y, sc_lt τ' g y = sc_lt τ g y := fun y => by unfold sc_lt; rw [i8, i10]
  induction m with
  | zero => rfl
  | succ m ih =>
    rw [sc_ew, sc_ew, ih]
    have hc : sc_ewc τ' g m (sc_ew τ g m) ↔ sc_ewc τ g m (sc_ew τ g m) := by
      unfold sc_ewc sc_wt sc_ie
      rw [n6, i8, i11, hl, hl]
    by_cases h : sc_ewc τ g m (sc_ew τ g m)
    · rw [if_pos h, if_pos (hc.mpr h)]
    · rw [if_neg h, if_neg (fun z => h (hc.mp z))]
/-- nothing to make final, nothing to take -/
def jl_q (τ : gs_T) (g : Nat) : Prop := (∀ y, y < 40 → ¬ sc_mfc τ g y) ∧ ¬ (¬ sc_ew τ g 40 = 0 ∧ ¬ τ.2.1 10 g (sc_ew τ g 40 - 1) = -1)
theorem jl_qf {τ τ' : gs_T} {g : Nat} (n6 : τ'.1 6 = τ.1 6) (n7 : τ'.1 7 = τ.1 7) (i8 : τ'.2.1 8 = τ.2.1 8) (i9 : τ'.2.1 9 = τ.2.1 9) (i10 : τ'.2.1 10 = τ.2.1 10) (i11 : τ'.2.1 11 = τ.2.1 11) (h : jl_q τ g) : jl_q τ' g := by
  refine ⟨fun y hy z => h.1 y hy ?_, ?_⟩
  · unfold sc_mfc sc_hal at z ⊢
    rw [n6, n7, i8, i9, i10] at z
    exact z
  · rw [ew_fr n6 i8 i10 i11, i10]; exact h.2
theorem jw_k {τ μ : gs_T} (J : jj_J τ μ) {g : Nat} (hg : g < τ.1 0 0 0) : ∀ m k, k ≤ τ.1 4 g 0 → k + m = τ.1 3 g 0 → sm_wk μ g m k = τ.1 4 g 0 := by
  have W := J.2.1.1
  intro m
  induction m with
  | zero => intro k h1 h2; have := gw_wc W g; rw [sm_wk]; omega
  | succ m ih =>
    intro k h1 h2
    obtain ⟨y, hy⟩ := gw_tn W hg (k := k) (by omega)
    have h9 := (J.1.2.2.2.2.1 g hg).2 k (by omega)
    have h124 : μ.1 124 (40 * g + k) 0 = y := by omega
    have h8 := (J.1.2.2.2.2.2.1 g y (gw_tp W hy)).2.2.2.2.1
    have h7 := (J.2.1.2.2.2.2.2.1 g hg).1 k y (by omega) hy
    rw [sm_wk, h124, h8, h7]
    by_cases hk : k < τ.1 4 g 0
    · rw [if_pos hk, if_neg (by decide)]; exact ih (k + 1) (by omega) (by omega)
    · rw [if_neg hk, if_pos rfl]; omega
theorem jw_x {τ μ : gs_T} (J : jj_J τ μ) {g : Nat} (hg : g < τ.1 0 0 0) : sm_wx μ g = τ.1 4 g 0 := by
  rw [sm_wx, (J.1.2.2.2.2.1 g hg).1]
  exact jw_k J hg _ 0 (by omega) (by omega)
theorem jw_b {μ : gs_T} {g o : Nat} : ∀ m q, (sm_wb μ g o m q = true ↔ ∀ x, q ≤ x → x < q + m → ¬ sm_wbc μ g o x) := by
  intro m
  induction m with
  | zero => intro q; exact ⟨fun _ x h1 h2 => by omega, fun _ => rfl⟩
  | succ m ih =>
    intro q
    rw [sm_wb]
    by_cases h : sm_wbc μ g o q
    · rw [if_pos h]
      exact ⟨fun z => absurd z (by decide), fun z => absurd h (z q (by omega) (by omega))⟩
    · rw [if_neg h, ih]
      constructor
      · intro z x h1 h2
        by_cases hx : x = q
        · rw [hx]; exact h
        · exact z x (by omega) (by omega)
      · exact fun z x h1 h2 => z x (by omega) (by omega)
theorem jw_sb {τ μ : gs_T} (J : jj_J τ μ) {g : Nat} (hg : g < τ.1 0 0 0) (hq : jl_q τ g) : sm_st μ g = sm_ws μ g ∧ (sm_sb μ g = true ↔ ¬ sm_wr μ g = 0) := by
  have h1 := jl_nf J hg hq.1
  have h2 : ¬ sm_tc μ g := fun z => hq.2 ((jt_tc J hg).2.mp z)
  refine ⟨?_, ?_⟩
  · rw [sm_st, h1]
    show (if sm_tc μ g then sm_tks μ g else sm_ws μ g) = _
    rw [if_neg h2]
  · rw [sm_sb, h1]
    show (if sm_tc μ g then true else if sm_wr μ g = 0 then false else true) = true ↔ _
    rw [if_neg h2]
    by_cases h3 : sm_wr μ g = 0
    · rw [if_pos h3]; exact ⟨fun z => absurd z (by decide), fun z => absurd h3 z⟩
    · rw [if_neg h3]; exact ⟨fun _ => h3, fun _ => rfl⟩
/-- the values are sent -/
theorem jw_v {τ μ : gs_T} (J : jj_J τ μ) {g o : Nat} (hg : g < τ.1 0 0 0) (hq : jl_q τ g) (hk : τ.1 4 g 0 < τ.1 3 g 0) (h5 : τ.1 5 g (τ.1 4 g 0) = o + 1) : ∃ μ', jj_J (sc_pv τ g o) μ' ∧ ¬ μ'.2.1 117 (40 * g + o) 0 = 0 ∧ ∀ ν n, gq_T g μ' ν n → ∃ n', gq_T g μ ν n' := by
  have W := J.2.1.1
  have hp := gw_tp W h5
  have hgo := gw_p W hp
  have hn := jq_n J
  have hx := jw_x J hg
  have h9 := (J.1.2.2.2.2.1 g hg).2 _ hk
  have h124 : sm_wo_ μ g = o := by unfold sm_wo_; rw [hx]; omega
  have hne : ¬ sm_wx μ g = μ.1 123 g 0 := by rw [hx, (J.1.2.2.2.2.1 g hg).1]; omega
  obtain ⟨s1, s2⟩ := jw_sb J hg hq
  have e0 : μ.1 100 0 0 = τ.1 0 0 0 := J.1.1.1
  have hof : ∀ x, gv_of (gs_i μ 117 (40 * g + o) 0 1) x o ↔ τ.1 6 x o = 1 := fun x => by
    refine Iff.trans ?_ (jq_of J hgo.2)
    unfold gv_of
    simp (decide := true) only [gs_i, gs_u_ne]
  have step : μ.2.1 117 (40 * g + o) 0 = 0 → ∀ μ', sm_po (gs_i μ 117 (40 * g + o) 0 1) 2 o (g + 1) (-1) (μ.1 100 0 0) = μ' → ∀ ν n, gq_T g μ' ν n → ∃ n', gq_T g μ ν n' := fun h0 μ' hm ν n h => by
    refine ⟨n + 1, gq_step J hg ?_ ?_⟩
    · rw [s2, sm_wr, if_neg hne, h124, if_pos h0]; decide
    · rw [s1, sm_ws, if_neg hne, h124, if_pos h0, hm]; exact h
  rcases js_two W J.2.1.2.1 hp with ⟨w1, w2⟩ | ⟨g', w1, w2, w3, w4, w5⟩
  · have epv : sc_pv τ g o = τ := by rw [sc_pv, if_pos w1]
    rw [epv]
    by_cases h0 : μ.2.1 117 (40 * g + o) 0 = 0
    · refine ⟨_, jS_step J hp w1, ?_, step h0 _ (po_zero (fun x hx2 z => ?_))⟩
      · simp (decide := true) only [gs_i, gs_u_at, and_self, if_true]
      · have := w2 x ((hof x).mp z.2); omega
    · exact ⟨μ, J, h0, fun ν n h => ⟨n, h⟩⟩
  · have h117 := ((J.1.2.2.2.2.2.1 g o hp).2.2.2.2.2 g' w1).2.1
    have hg' := gw_p W w3
    by_cases h12 : τ.2.1 12 g o = 0
    · have hfl := jy_fl J hp (Or.inr h12)
      have epv : sc_pv τ g o = gs_i (gs_n (sc_ad (sc_nw τ 4) (τ.1 2 0 0) (τ.1 20 0 0) 2 (nI g) g' o (τ.2.1 19 (sc_ky τ g o) 0)) 2 0 0 (τ.1 2 0 0 + 1)) 12 g o 1 := by
        rw [sc_pv, if_neg (by omega), if_pos h12, sc_pm, sc_pt, if_pos (show (sc_nw τ 4).1 2 0 0 < 240 from hfl), w1]
        rfl
      rw [epv]
      refine ⟨_, jV_step J hp w1 h12 hk h5, ?_, step (by rw [h117]; exact h12) _ (po_one (by rw [e0]; exact hg'.1) (fun x hx2 => ?_))⟩
      · simp (decide := true) only [sm_put, gs_n, gs_i, gs_u_ne, gs_u_at, and_self, if_true]
      · rw [hof]
        constructor
        · intro z
          rcases w5 x z.2 with y | y
          · have := z.1; omega
          · exact y
        · intro z
          rw [z]; exact ⟨by omega, w3⟩
    · have epv : sc_pv τ g o = τ := by rw [sc_pv, if_neg (by omega), if_neg h12]
      rw [epv]
      exact ⟨μ, J, by rw [h117]; exact h12, fun ν n h => ⟨n, h⟩⟩
theorem jl_W {g : Nat} : ∀ (m : Nat) (τ μ : gs_T), jj_J τ μ → g < τ.1 0 0 0 → jl_q τ g → m + τ.1 4 g 0 = τ.1 3 g 0 → ∃ ν n, gq_T g μ ν n ∧ jj_J (sc_wa g m (τ.1 4 g 0) τ) ν := by
  intro m
  induction m with
  | zero =>
    intro τ μ J hg hq hm
    obtain ⟨s1, s2⟩ := jw_sb J hg hq
    have hne : sm_wx μ g = μ.1 123 g 0 := by rw [jw_x J hg, (J.1.2.2.2.2.1 g hg).1]; omega
    have hs : sm_st μ g = μ := by rw [s1, sm_ws, if_pos hne]
    refine ⟨μ, 1, ?_, J⟩
    have h9 := gq_end J hg (fun z => s2.mp z (by rw [sm_wr, if_pos hne]))
    rw [hs] at h9
    exact h9
  | succ m ih =>
    intro τ μ J hg hq hm
    have W := J.2.1.1
    have hk : τ.1 4 g 0 < τ.1 3 g 0 := by omega
    obtain ⟨o, h5⟩ := gw_tn W hg hk
    have hp := gw_tp W h5
    obtain ⟨μ1, J1, h117, hc⟩ := jw_v J hg hq hk h5
    rw [sc_wa, h5, Nat.add_sub_cancel]
    have n0 : (sc_pv τ g o).1 0 = τ.1 0 := pv_n (by decide) (by decide) (by decide) (by decide) (by decide) (by decide) (by decide)
    have n3 : (sc_pv τ g o).1 3 = τ.1 3 := pv_n (by decide) (by decide) (by decide) (by decide) (by decide) (by decide) (by decide)
    have n4 : (sc_pv τ g o).1 4 = τ.1 4 := pv_n (by decide) (by decide) (by decide) (by decide) (by decide) (by decide) (by decide)
    have n5 : (sc_pv τ g o).1 5 = τ.1 5 := pv_n (by decide) (by decide) (by decide) (by decide) (by decide) (by decide) (by decide)
    have n6 : (sc_pv τ g o).1 6 = τ.1 6 := pv_n (by decide) (by decide) (by decide) (by decide) (by decide) (by decide) (by decide)
    have n7 : (sc_pv τ g o).1 7 = τ.1 7 := pv_n (by decide) (by decide) (by decide) (by decide) (by decide) (by decide) (by decide)
    have i8 : (sc_pv τ g o).2.1 8 = τ.2.1 8 := pv_i (by decide) (by decide) (by decide) (by decide)
    have i9 : (sc_pv τ g o).2.1 9 = τ.2.1 9 := pv_i (by decide) (by decide) (by decide) (by decide)
    have i10 : (sc_pv τ g o).2.1 10 = τ.2.1 10 := pv_i (by decide) (by decide) (by decide) (by decide)
    have i11 : (sc_pv τ g o).2.1 11 = τ.2.1 11 := pv_i (by decide) (by decide) (by decide) (by decide)
    have i13 : (sc_pv τ g o).2.1 13 = τ.2.1 13 := pv_i (by decide) (by decide) (by decide) (by decide)
    have hq1 : jl_q (sc_pv τ g o) g := jl_qf n6 n7 i8 i9 i10 i11 hq
    rw [← n4, ← n7, ← i13]
    rw [← n3, ← n4] at hk hm
    rw [← n5, ← n4] at h5
    rw [← n6] at hp
    rw [← n0] at hg
    generalize sc_pv τ g o = τ1 at *
    have hgo := gw_p J1.2.1.1 hp
    have hn := jq_n J1
    have hx := jw_x J1 hg
    have h9 := (J1.1.2.2.2.2.1 g hg).2 _ hk
    have h124 : sm_wo_ μ1 g = o := by unfold sm_wo_; rw [hx]; omega
    have hne : ¬ sm_wx μ1 g = μ1.1 123 g 0 := by rw [hx, (J1.1.2.2.2.2.1 g hg).1]; omega
    obtain ⟨s1, s2⟩ := jw_sb J1 hg hq1
    have e0 : μ1.1 100 0 0 = τ1.1 0 0 0 := J1.1.1.1
    have hwb : sm_wb μ1 g o (μ1.1 100 0 0) 0 = true ↔ ¬ (¬ τ1.1 7 g o = 0 ∧ τ1.2.1 13 g o = 0) := by
      rw [jw_b]
      constructor
      · intro z w
        obtain ⟨g', hg'⟩ : ∃ g', τ1.1 7 g o = g' + 1 := ⟨τ1.1 7 g o - 1, by omega⟩
        rcases js_two J1.2.1.1 J1.2.1.2.1 hp with ⟨w1, _⟩ | ⟨g2, w1, w2, w3, w4, w5⟩
        · exact w.1 w1
        · have hg2 := gw_p J1.2.1.1 w3
          refine z g2 (by omega) (by rw [e0]; omega) ⟨w2, (jq_of J1 hgo.2).mpr w3, ?_⟩
          rw [((J1.1.2.2.2.2.2.1 g o hp).2.2.2.2.2 g2 w1).2.2.1]
          exact w.2
      · intro z x _ hx2 w
        rcases js_two J1.2.1.1 J1.2.1.2.1 hp with ⟨_, w2⟩ | ⟨g2, w1, w2, w3, w4, w5⟩
        · exact w.1 (w2 x ((jq_of J1 hgo.2).mp w.2.1))
        · rcases w5 x ((jq_of J1 hgo.2).mp w.2.1) with y | y
          · exact w.1 y
          · refine z ⟨by omega, ?_⟩
            have h8 := w.2.2
            rw [y, ((J1.1.2.2.2.2.2.1 g o hp).2.2.2.2.2 g2 w1).2.2.1] at h8
            exact h8
    by_cases hst : ¬ τ1.1 7 g o = 0 ∧ τ1.2.1 13 g o = 0
    · rw [if_pos hst]
      have hb2 : ¬ sm_wb μ1 g o (μ1.1 100 0 0) 0 = true := fun z => hwb.mp z hst
      have hs : sm_st μ1 g = μ1 := by rw [s1, sm_ws, if_neg hne, h124, if_neg h117, if_neg hb2]
      have h8 := gq_end J1 hg (fun z => s2.mp z (by rw [sm_wr, if_neg hne, h124, if_neg h117, if_neg hb2]))
      rw [hs] at h8
      obtain ⟨n', h'⟩ := hc _ _ h8
      exact ⟨μ1, n', h', J1⟩
    · rw [if_neg hst]
      have hb2 := hwb.mpr hst
      have J2 := jW_step J1 hp hk h5 (by
        by_cases h7 : τ1.1 7 g o = 0
        · exact Or.inl h7
        · exact Or.inr (fun z => hst ⟨h7, z⟩))
      have e4 : (gs_n (sc_wo τ1 g o) 4 g 0 (τ1.1 4 g 0 + 1)).1 4 g 0 = τ1.1 4 g 0 + 1 := by
        simp (decide := true) only [gs_n, gs_u_at, and_self, if_true]
      have f0 : (gs_n (sc_wo τ1 g o) 4 g 0 (τ1.1 4 g 0 + 1)).1 0 = τ1.1 0 := by
        simp (decide := true) only [gs_n, gs_u_ne, wo_N]
      have f3 : (gs_n (sc_wo τ1 g o) 4 g 0 (τ1.1 4 g 0 + 1)).1 3 = τ1.1 3 := by
        simp (decide := true) only [gs_n, gs_u_ne, wo_N]
      have hq2 : jl_q (gs_n (sc_wo τ1 g o) 4 g 0 (τ1.1 4 g 0 + 1)) g := by
        refine jl_qf ?_ ?_ ?_ ?_ ?_ ?_ hq1 <;> simp (decide := true) only [gs_n, gs_u_ne, wo_N, wo_i]
      obtain ⟨ν, n, h8, J3⟩ := ih _ _ J2 (by rw [f0]; exact hg) hq2 (by rw [e4, f3]; omega)
      rw [e4] at J3
      have hs : sm_st μ1 g = sm_wo μ1 g o := by rw [s1, sm_ws, if_neg hne, h124, if_neg h117, if_pos hb2]
      have h7 := gq_step J1 hg (ν := ν) (n := n) (s2.mpr (by rw [sm_wr, if_neg hne, h124, if_neg h117, if_pos hb2]; decide)) (by rw [hs]; exact h8)
      obtain ⟨n', h'⟩ := hc _ _ h7
      exact ⟨ν, n', h', J3⟩
theorem jl_all {τ μ : gs_T} (J : jj_J τ μ) {g : Nat} (hg : g < τ.1 0 0 0) : ∃ ν n, gq_T g μ ν n ∧ jj_J (sc_wa g ((sc_ta g (40 - (sc_mf τ g 40).1 3 g 0) ((sc_mf τ g 40).1 3 g 0) (sc_mf τ g 40)).1 3 g 0 - (sc_ta g (40 - (sc_mf τ g 40).1 3 g 0) ((sc_mf τ g 40).1 3 g 0) (sc_mf τ g 40)).1 4 g 0) ((sc_ta g (40 - (sc_mf τ g 40).1 3 g 0) ((sc_mf τ g 40).1 3 g 0) (sc_mf τ g 40)).1 4 g 0) (sc_ta g (40 - (sc_mf τ g 40).1 3 g 0) ((sc_mf τ g 40).1 3 g 0) (sc_mf τ g 40))) ν := by
  obtain ⟨μ1, J1, hno, h1, hc1⟩ := jl_F J hg 40 (Nat.le_refl _)
  generalize sc_mf τ g 40 = τ1 at *
  have hg1 : g < τ1.1 0 0 0 := by rw [h1]; exact hg
  have hw := gw_tc J1.2.1.1 g
  obtain ⟨μ2, J2, hno2, hc2, hg2, hc3⟩ := jl_T (40 - τ1.1 3 g 0) τ1 μ1 J1 hg1 hno (by omega)
  generalize sc_ta g (40 - τ1.1 3 g 0) (τ1.1 3 g 0) τ1 = τ2 at *
  have hw2 := gw_wc J2.2.1.1 g
  obtain ⟨ν, n, h, J3⟩ := jl_W (τ2.1 3 g 0 - τ2.1 4 g 0) τ2 μ2 J2 hg2 ⟨hno2, fun z => hc2 ((jt_tc J2 hg2).2.mpr z)⟩ (by omega)
  obtain ⟨n2, h2⟩ := hc3 _ _ h
  obtain ⟨n3, h3⟩ := hc1 _ _ h2
  exact ⟨ν, n3, h3, J3⟩
