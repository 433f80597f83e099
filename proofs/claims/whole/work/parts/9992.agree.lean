/-! pure: agree -/
theorem jJ_21 {τ τ' μ : gs_T} (h1 : τ'.1 = τ.1) (h2 : ∀ t, t ≠ 21 → t ≠ 22 → τ'.2.1 t = τ.2.1 t) (h3 : τ'.2.2 = τ.2.2) (J : jj_J τ μ) : jj_J τ' μ := by
  obtain ⟨⟨kA, kO, kG, kV, kT, kP, kZ, kM⟩, ⟨W, S, T, L, R, Wk, A, F⟩, V, G⟩ := J
  refine ⟨⟨⟨by rw [h1]; exact kA.1, by rw [h1]; exact kA.2.1, by rw [h1]; exact kA.2.2.1, by rw [h2 5 (by decide) (by decide)]; exact kA.2.2.2.1, kA.2.2.2.2⟩, ?_, ?_, ?_, ?_, ?_, ?_, ?_⟩, ⟨gw_of h1 W, ?_, ?_, ?_, ?_, ?_, ?_, ?_⟩, V, ?_⟩
  · exact jj_O_fr (by rw [h1]) (by rw [h1]) (by rw [h1]) (by rw [h1]) (h2 0 (by decide) (by decide)) (h2 1 (by decide) (by decide)) (h2 2 (by decide) (by decide)) (h2 3 (by decide) (by decide)) (h2 4 (by decide) (by decide)) rfl rfl rfl rfl rfl rfl rfl rfl kO
  · exact jj_G_fr (by rw [h1]) (h2 6 (by decide) (by decide)) (h2 7 (by decide) (by decide)) rfl rfl kG
  · exact jj_V_fr (h2 19 (by decide) (by decide)) (h2 20 (by decide) (by decide)) rfl rfl kV
  · exact jj_T_fr (by rw [h1]) (by rw [h1]) (by rw [h1]) rfl rfl kT
  · exact jj_P_fr (by rw [h1]) (by rw [h1]) (by rw [h1]) (by rw [h1]) (h2 8 (by decide) (by decide)) (h2 9 (by decide) (by decide)) (h2 10 (by decide) (by decide)) (h2 11 (by decide) (by decide)) (h2 12 (by decide) (by decide)) (h2 13 (by decide) (by decide)) (h2 14 (by decide) (by decide)) (h2 15 (by decide) (by decide)) rfl rfl rfl rfl rfl rfl rfl rfl rfl kP
  · exact jj_Z_fr (by rw [h1]) (by rw [h1]) rfl rfl rfl rfl rfl rfl rfl kZ
  · exact jj_M_fr (by rw [h1]) (by rw [h1]) (by rw [h1]) (by rw [h1]) (by rw [h1]) (by rw [h1]) (h2 16 (by decide) (by decide)) (h2 17 (by decide) (by decide)) (h2 18 (by decide) (by decide)) rfl rfl rfl rfl rfl rfl rfl kM
  · exact pp_S_fr (by rw [h1]) (by rw [h1]) (by rw [h1]) (by rw [h1]) (by rw [h1]) (by rw [h1]) (h2 0 (by decide) (by decide)) S
  · exact pp_T_fr (by rw [h1]) (by rw [h1]) (by rw [h1]) (h2 2 (by decide) (by decide)) (h2 5 (by decide) (by decide)) (h2 7 (by decide) (by decide)) (h2 8 (by decide) (by decide)) (h2 9 (by decide) (by decide)) (h2 10 (by decide) (by decide)) (h2 20 (by decide) (by decide)) T
  · exact pp_L_fr (by rw [h1]) (by rw [h1]) (by rw [h1]) (by rw [h1]) (h2 8 (by decide) (by decide)) (h2 16 (by decide) (by decide)) (h2 18 (by decide) (by decide)) L
  · exact pp_R_fr (by rw [h1]) (by rw [h1]) (by rw [h1]) (by rw [h1]) (h2 8 (by decide) (by decide)) (h2 10 (by decide) (by decide)) (h2 11 (by decide) (by decide)) R
  · exact pp_W_fr (by rw [h1]) (by rw [h1]) (by rw [h1]) (by rw [h1]) (by rw [h1]) (h2 11 (by decide) (by decide)) (h2 12 (by decide) (by decide)) (h2 15 (by decide) (by decide)) Wk
  · exact pp_A_fr (by rw [h1]) (by rw [h1]) (by rw [h1]) (by rw [h1]) (by rw [h1]) (by rw [h1]) (h2 2 (by decide) (by decide)) (h2 3 (by decide) (by decide)) (h2 10 (by decide) (by decide)) (h2 15 (by decide) (by decide)) (h2 20 (by decide) (by decide)) h3 A
  · exact pp_F_fr (by rw [h1]) (by rw [h1]) (by rw [h1]) (h2 8 (by decide) (by decide)) (h2 12 (by decide) (by decide)) F
  · exact pp_G_fr (by rw [h1]) (by rw [h1]) (by rw [h1]) (by rw [h1]) (by rw [h1]) (by rw [h1]) (by rw [h1]) (by rw [h1]) (by rw [h1]) (by rw [h1]) (by rw [h1]) (by rw [h1]) (h2 0 (by decide) (by decide)) (h2 1 (by decide) (by decide)) (h2 3 (by decide) (by decide)) (h2 4 (by decide) (by decide)) (h2 12 (by decide) (by decide)) (h2 13 (by decide) (by decide)) (h2 14 (by decide) (by decide)) (h2 16 (by decide) (by decide)) (h2 18 (by decide) (by decide)) (h2 19 (by decide) (by decide)) G
theorem ra_i {σ : gs_T} {q t : Nat} (h1 : t ≠ 21) (h2 : t ≠ 22) : (sc_ra σ q).2.1 t = σ.2.1 t := by
  unfold sc_ra sc_r3 sc_r2
  split <;> split <;> simp only [gs_i, gs_u_ne h1, gs_u_ne h2]
theorem ra_l {σ : gs_T} {q : Nat} : (sc_ra σ q).2.2 = σ.2.2 := by
  unfold sc_ra sc_r3 sc_r2
  split <;> split <;> rfl
theorem rl_i {m e : Nat} {σ : gs_T} : (∀ t, t ≠ 21 → t ≠ 22 → (sc_rl m e σ).2.2.1 t = σ.2.1 t) ∧ (sc_rl m e σ).2.2.2 = σ.2.2 := by
  induction m generalizing e σ with
  | zero => exact ⟨fun t _ _ => rfl, rfl⟩
  | succ m ih =>
    rw [sc_rl]
    split
    · exact ⟨fun t _ _ => rfl, rfl⟩
    · split
      · exact ⟨fun t h1 h2 => (ih.1 t h1 h2).trans (ra_i h1 h2), ih.2.trans ra_l⟩
      · exact ⟨fun t h1 h2 => ra_i h1 h2, ra_l⟩
theorem fl_l {f : Nat} {v : Int32} {σ : gs_T} {m : Nat} : (sc_fl f v σ m).2.2 = σ.2.2 := by
  induction m with
  | zero => rfl
  | succ m ih => rw [sc_fl]; exact ih
theorem fl_at {f : Nat} {v : Int32} {σ : gs_T} {m k : Nat} (hk : k < m) : (sc_fl f v σ m).2.1 f k 0 = v := by
  induction m with
  | zero => omega
  | succ m ih =>
    rw [sc_fl]
    by_cases h : k = m
    · rw [h]; exact gi_at
    · show gs_u (sc_fl f v σ m).2.1 f m 0 v f k 0 = v
      rw [gu_0, if_neg h]
      exact ih (by omega)
theorem r0_i {σ : gs_T} : (sc_r0 σ).1 = σ.1 ∧ (∀ t, t ≠ 21 → t ≠ 22 → (sc_r0 σ).2.1 t = σ.2.1 t) ∧ (sc_r0 σ).2.2 = σ.2.2 ∧ ∀ k, k < 16 → (sc_r0 σ).2.1 21 k 0 = 100 ∧ (sc_r0 σ).2.1 22 k 0 = 100 := by
  unfold sc_r0
  refine ⟨by rw [sc_fl_1, sc_fl_1], fun t h1 h2 => by rw [sc_fl_i h2, sc_fl_i h1], by rw [fl_l, fl_l], fun k hk => ⟨?_, fl_at hk⟩⟩
  rw [sc_fl_i (by decide)]
  exact fl_at hk
theorem ags_i {σ : gs_T} : (sc_ags σ).1 = σ.1 ∧ (∀ t, t ≠ 21 → t ≠ 22 → (sc_ags σ).2.1 t = σ.2.1 t) ∧ (sc_ags σ).2.2 = σ.2.2 := by
  obtain ⟨r1, r2, r3, _⟩ := r0_i (σ := σ)
  have h : ∀ m e, (sc_rl m e (sc_r0 σ)).2.1 = σ.1 ∧ (∀ t, t ≠ 21 → t ≠ 22 → (sc_rl m e (sc_r0 σ)).2.2.1 t = σ.2.1 t) ∧ (sc_rl m e (sc_r0 σ)).2.2.2 = σ.2.2 := fun m e =>
    ⟨by rw [sc_rl_1, r1], fun t h1 h2 => by rw [rl_i.1 t h1 h2, r2 t h1 h2], by rw [rl_i.2, r3]⟩
  unfold sc_ags sc_rg
  split
  · split
    · exact h _ _
    · exact h _ _
  · exact ⟨rfl, fun t _ _ => rfl, rfl⟩
theorem ag_ft {τ : gs_T} (W : gw_W τ) (S : pp_S τ) (T : pp_T τ) {g y : Nat} (hp : τ.1 6 g y = 1) (h : ¬ (τ.2.1 10 g y).toInt = -1) : (sc_ft τ y).toInt = (τ.2.1 10 g y).toInt := by
  have ho := (gw_p W hp).2
  have hga := (S.1 (τ.1 13 y 0 % τ.1 0 0 0) y).mpr ⟨ho, Or.inl rfl⟩
  have hgb := (S.1 (τ.1 14 y 0 % τ.1 0 0 0) y).mpr ⟨ho, Or.inr rfl⟩
  have hg := ((S.1 g y).mp hp).2
  rw [sc_ft, if_pos ⟨hga, hgb⟩]
  by_cases ha : τ.2.1 10 (τ.1 13 y 0 % τ.1 0 0 0) y = -1
  · rw [if_pos ha]
    rw [jn_m1] at ha
    rcases hg with z | z
    · rw [z] at h; exact absurd ha h
    · rw [z]
  · rw [if_neg ha]
    rw [jn_m1] at ha
    exact jt_fin W S T hga hp ha h
theorem bh_i {τ : gs_T} {p q : Nat} : sc_bh τ p q ↔ ((sc_ft τ q).toInt < (sc_ft τ p).toInt ∨ ((sc_ft τ p).toInt = (sc_ft τ q).toInt ∧ q < p)) := by
  unfold sc_bh
  rw [ti_lt, ti_eq]
theorem ag_gi {τ : gs_T} (W : gw_W τ) (S : pp_S τ) (T : pp_T τ) (R : pp_R τ) {g : Nat} (hg : g < τ.1 0 0 0) : ∀ m j, j + m ≤ τ.1 3 g 0 - 1 → sc_gi τ g m j = true := by
  intro m
  induction m with
  | zero => intro j _; rfl
  | succ m ih =>
    intro j h
    obtain ⟨p, hp⟩ := gw_tn W hg (k := j) (by omega)
    obtain ⟨q, hq⟩ := gw_tn W hg (k := j + 1) (by omega)
    obtain ⟨r1, _, r3, _, _⟩ := R g hg
    have h9 := r3 j (j + 1) p q (by omega) (by omega) hp hq
    have fp := ag_ft W S T (gw_tp W hp) (r1 j p (by omega) hp).2
    have fq := ag_ft W S T (gw_tp W hq) (r1 (j + 1) q (by omega) hq).2
    rw [sc_gi, hp, hq, Nat.add_sub_cancel, Nat.add_sub_cancel, if_pos]
    · exact ih (j + 1) (by omega)
    · rw [bh_i, fp, fq]
      unfold pp_b at h9
      omega
theorem ag_go {τ : gs_T} (W : gw_W τ) (S : pp_S τ) (T : pp_T τ) (R : pp_R τ) : ∀ m g, g + m = τ.1 0 0 0 → sc_go τ m g = true := by
  intro m
  induction m with
  | zero => intro g _; rfl
  | succ m ih =>
    intro g h
    rw [sc_go, if_pos (ag_gi W S T R (by omega) _ 0 (by omega))]
    exact ih (g + 1) (by omega)
theorem ag_an {τ : gs_T} (W : gw_W τ) (R : pp_R τ) (A : pp_A τ) {y g : Nat} (hy : τ.2.1 3 y 0 = 1) (hp : τ.1 6 g y = 1) : (∃ k, pp_k τ g y k) ∧ ¬ (τ.2.1 10 g y).toInt = -1 := by
  rcases (A.1 y (gw_p W hp).2).1 with z | z
  · rw [z] at hy; exact absurd hy (by decide)
  · obtain ⟨k, hk⟩ := (z.2 g hp).1
    exact ⟨⟨k, hk⟩, ((R g (gw_p W hp).1).1 k y hk.2.1 hk.2.2).2⟩
theorem ag_ci {τ : gs_T} (W : gw_W τ) (S : pp_S τ) (T : pp_T τ) (R : pp_R τ) (A : pp_A τ) {p : Nat} (hp : p < τ.1 1 0 0) : ∀ m e, e + m = p → sc_ci τ p m e = true := by
  intro m
  induction m with
  | zero => intro e _; rfl
  | succ m ih =>
    intro e h
    rw [sc_ci, if_neg]
    · exact ih (e + 1) (by omega)
    · rintro ⟨h1, h2, h3⟩
      obtain ⟨a1, a2⟩ := A.2 p e hp (by omega) h1
      have hpe := (S.1 (τ.1 13 e 0 % τ.1 0 0 0) e).mpr ⟨by omega, Or.inl rfl⟩
      have hfe := ag_ft W S T hpe (ag_an W R A a1 hpe).2
      have hle := a2 _ hpe
      have hga := (S.1 (τ.1 13 p 0 % τ.1 0 0 0) p).mpr ⟨hp, Or.inl rfl⟩
      have hgb := (S.1 (τ.1 14 p 0 % τ.1 0 0 0) p).mpr ⟨hp, Or.inr rfl⟩
      refine h3 (bh_i.mpr (Or.inl ?_))
      rw [hfe]
      rw [sc_ft, if_pos ⟨hga, hgb⟩] at h2 ⊢
      have t1 := T.2.2.2.2 _ _ hga
      have t2 := T.2.2.2.2 _ _ hgb
      by_cases ha : τ.2.1 10 (τ.1 13 p 0 % τ.1 0 0 0) p = -1
      · rw [if_pos ha] at h2 ⊢
        rw [jn_m1] at h2
        omega
      · rw [if_neg ha] at h2 ⊢
        rw [jn_m1] at h2
        omega
theorem ag_co {τ : gs_T} (W : gw_W τ) (S : pp_S τ) (T : pp_T τ) (R : pp_R τ) (A : pp_A τ) : ∀ m p, p + m = τ.1 1 0 0 → sc_co τ m p = true := by
  intro m
  induction m with
  | zero => intro p _; rfl
  | succ m ih =>
    intro p h
    rw [sc_co, if_pos (ag_ci W S T R A (by omega) p 0 (by omega))]
    exact ih (p + 1) (by omega)
theorem ag_ai {τ μ : gs_T} (J : jj_J τ μ) {g : Nat} (hg : g < τ.1 0 0 0) : ∀ m j, j + m ≤ τ.1 3 g 0 - 1 → sm_ai μ g m j 1 = 1 := by
  have W := J.2.1.1
  intro m
  induction m with
  | zero => intro j _; rfl
  | succ m ih =>
    intro j h
    obtain ⟨p, hp⟩ := gw_tn W hg (k := j) (by omega)
    obtain ⟨q, hq⟩ := gw_tn W hg (k := j + 1) (by omega)
    obtain ⟨r1, _, r3, _, _⟩ := J.2.1.2.2.2.2.1 g hg
    have h9 := r3 j (j + 1) p q (by omega) (by omega) hp hq
    have f1 := (r1 j p (by omega) hp).2
    have f2 := (r1 (j + 1) q (by omega) hq).2
    have k1 := (J.1.2.2.2.2.1 g hg).2 j (by omega)
    have k2 := (J.1.2.2.2.2.1 g hg).2 (j + 1) (by omega)
    have q1 : μ.1 124 (40 * g + j) 0 = p := by omega
    have q2 : μ.1 124 (40 * g + (j + 1)) 0 = q := by omega
    have c1 := (J.1.2.2.2.2.2.1 g p (gw_tp W hp)).2.2.1
    have c2 := (J.1.2.2.2.2.2.1 g q (gw_tp W hq)).2.2.1
    rw [ti_tm, if_neg (by rw [jn_m1]; exact f1)] at c1
    rw [ti_tm, if_neg (by rw [jn_m1]; exact f2)] at c2
    have hac : sm_ac μ g j := by
      unfold sm_ac
      rw [q1, q2, c1, c2, ti_lt, ti_eq]
      unfold pp_b at h9
      omega
    rw [sm_ai, if_neg (by decide), if_pos hac]
    exact ih (j + 1) (by omega)
theorem ag_ag {τ μ : gs_T} (J : jj_J τ μ) : ∀ m g, g + m = τ.1 0 0 0 → sm_ag μ m g 1 = 1 := by
  intro m
  induction m with
  | zero => intro g _; rfl
  | succ m ih =>
    intro g h
    rw [sm_ag, (J.1.2.2.2.2.1 g (by omega)).1, ag_ai J (by omega) _ 0 (by omega)]
    exact ih (g + 1) (by omega)
/-- y comes behind the last one, l - 1 (l = 0: there is none yet) -/
abbrev ag_D (σ : gs_T) (l y : Nat) : Prop := l = 0 ∨ sc_bh σ y (l - 1)
theorem na_sp {σ : gs_T} {l : Nat} : ∀ m, (sc_na σ l m = 0 → ∀ y, y < m → ¬ (¬ σ.2.1 3 y 0 = 0 ∧ ag_D σ l y)) ∧ ∀ e, sc_na σ l m = e + 1 → e < m ∧ (¬ σ.2.1 3 e 0 = 0 ∧ ag_D σ l e) ∧ ∀ y, y < m → ¬ σ.2.1 3 y 0 = 0 → ag_D σ l y → ¬ y = e → sc_bh σ y e := by
  intro m
  induction m with
  | zero => exact ⟨fun _ y hy => absurd hy (Nat.not_lt_zero _), fun e he => absurd he (by rw [sc_na]; omega)⟩
  | succ m ih =>
    obtain ⟨i1, i2⟩ := ih
    rw [sc_na]
    by_cases hc : sc_nac σ l m (sc_na σ l m)
    · rw [if_pos hc]
      refine ⟨fun z => absurd z (by omega), fun e he => ?_⟩
      have he : m = e := by omega
      subst he
      refine ⟨by omega, ⟨hc.1, hc.2.1⟩, fun y hy h3 hD hne => ?_⟩
      have hy : y < m := by omega
      have hc2 := hc.2.2
      rcases h0 : sc_na σ l m with _ | f
      · exact absurd ⟨h3, hD⟩ (i1 h0 y hy)
      · have h9 := i2 f h0
        rw [h0, Nat.add_sub_cancel] at hc2
        have z1 : sc_bh σ f m := by
          rcases hc2 with z | z
          · omega
          · exact z
        by_cases hyf : y = f
        · rw [hyf]; exact z1
        · have h8 := h9.2.2 y hy h3 hD hyf
          rw [bh_i] at h8 z1 ⊢
          omega
    · rw [if_neg hc]
      refine ⟨fun z y hy hpw => ?_, fun e he => ?_⟩
      · by_cases hym : y = m
        · rw [hym] at hpw; exact hc ⟨hpw.1, hpw.2, Or.inl z⟩
        · exact i1 z y (by omega) hpw
      · have h9 := i2 e he
        refine ⟨by omega, h9.2.1, fun y hy h3 hD hne => ?_⟩
        by_cases hym : y = m
        · have h8 : ¬ sc_bh σ e m := fun z => hc ⟨by rw [← hym]; exact h3, by rw [← hym]; exact hD, Or.inr (by rw [he, Nat.add_sub_cancel]; exact z)⟩
          rw [bh_i] at h8
          rw [hym, bh_i]
          omega
        · exact h9.2.2 y (by omega) h3 hD hne
theorem ft_fr {σ υ : gs_T} (h1 : υ.1 = σ.1) (h2 : ∀ t, t ≠ 21 → t ≠ 22 → υ.2.1 t = σ.2.1 t) (y : Nat) : sc_ft υ y = sc_ft σ y := by
  unfold sc_ft
  rw [h1, h2 10 (by decide) (by decide)]
theorem na_fr {σ υ : gs_T} (h1 : υ.1 = σ.1) (h2 : ∀ t, t ≠ 21 → t ≠ 22 → υ.2.1 t = σ.2.1 t) {l : Nat} : ∀ m, sc_na υ l m = sc_na σ l m := by
  intro m
  induction m with
  | zero => rfl
  | succ m ih =>
    rw [sc_na, sc_na, ih]
    have hc : sc_nac υ l m (sc_na σ l m) ↔ sc_nac σ l m (sc_na σ l m) := by
      unfold sc_nac sc_bh
      rw [h2 3 (by decide) (by decide), ft_fr h1 h2, ft_fr h1 h2, ft_fr h1 h2]
    by_cases h : sc_nac σ l m (sc_na σ l m)
    · rw [if_pos h, if_pos (hc.mpr h)]
    · rw [if_neg h, if_neg (fun z => h (hc.mp z))]
theorem r2_21 {υ : gs_T} {y : Nat} (k : Nat) : (sc_r2 υ y).2.1 21 k 0 = if k = υ.1 13 y 0 then sc_bA υ y (υ.2.1 21 (υ.1 13 y 0) 0) (υ.2.1 21 (υ.1 14 y 0) 0) else if k = υ.1 14 y 0 then sc_bB υ y (υ.2.1 21 (υ.1 13 y 0) 0) (υ.2.1 21 (υ.1 14 y 0) 0) else υ.2.1 21 k 0 := by
  unfold sc_r2
  simp (decide := true) only [gs_i, gs_u_at, and_true, eq_self]
theorem ra_21 {υ : gs_T} {y : Nat} (k : Nat) : (sc_ra υ y).2.1 21 k 0 = (sc_r2 υ y).2.1 21 k 0 := by
  unfold sc_ra sc_r3
  split <;> split <;> simp (decide := true) only [gs_i, gs_u_ne]
theorem ra_22 {υ : gs_T} {y : Nat} (k : Nat) : (sc_ra υ y).2.1 22 k 0 = if (k = υ.1 14 y 0 ∧ sc_iw υ y (υ.1 14 y 0)) ∨ (k = υ.1 13 y 0 ∧ sc_iw υ y (υ.1 13 y 0)) then (sc_r2 υ y).2.1 21 k 0 else υ.2.1 22 k 0 := by
  have e : (sc_r2 υ y).2.1 22 k 0 = υ.2.1 22 k 0 := by
    unfold sc_r2; simp (decide := true) only [gs_i, gs_u_ne]
  unfold sc_ra sc_r3
  by_cases ha : sc_iw υ y (υ.1 13 y 0)
  · rw [if_pos ha]
    by_cases hb : sc_iw υ y (υ.1 14 y 0)
    · rw [if_pos hb]
      simp (decide := true) only [gs_i, gs_u_at, and_true, eq_self]
      by_cases k1 : k = υ.1 14 y 0
      · rw [if_pos k1, if_pos (Or.inl ⟨k1, hb⟩), k1]
      · rw [if_neg k1]
        by_cases k2 : k = υ.1 13 y 0
        · rw [if_pos k2, if_pos (Or.inr ⟨k2, ha⟩), k2]
        · rw [if_neg k2, if_neg (fun z => by rcases z with z | z; exact k1 z.1; exact k2 z.1), e]
    · rw [if_neg hb]
      simp (decide := true) only [gs_i, gs_u_at, and_true, eq_self]
      by_cases k2 : k = υ.1 13 y 0
      · rw [if_pos k2, if_pos (Or.inr ⟨k2, ha⟩), k2]
      · rw [if_neg k2, if_neg (fun z => by rcases z with z | z; exact hb z.2; exact k2 z.1), e]
  · rw [if_neg ha]
    by_cases hb : sc_iw υ y (υ.1 14 y 0)
    · rw [if_pos hb]
      simp (decide := true) only [gs_i, gs_u_at, and_true, eq_self]
      by_cases k1 : k = υ.1 14 y 0
      · rw [if_pos k1, if_pos (Or.inl ⟨k1, hb⟩), k1]
      · rw [if_neg k1, if_neg (fun z => by rcases z with z | z; exact k1 z.1; exact ha z.2), e]
    · rw [if_neg hb, if_neg (fun z => by rcases z with z | z; exact hb z.2; exact ha z.2), e]
theorem cn_zero {p : Nat → Prop} [DecidablePred p] {m : Nat} (h : ti_cn p m ≤ 0) : ∀ i, i < m → ¬ p i := by
  intro i hi hp
  have := ti_cn_sub (p := fun _ => False) (q := p) hi hp (fun z => z) (fun _ _ z => z.elim)
  omega
/-- what the replay keeps: c g orders of group g's row are played -/
def ag_N (σ υ : gs_T) (V : Nat → Nat → Nat → Int32) (l : Nat) (c : Nat → Nat) : Prop := (∀ g j y, g < σ.1 0 0 0 → j < σ.1 3 g 0 → σ.1 5 g j = y + 1 → (j < c g ↔ (σ.2.1 3 y 0 = 1 ∧ ¬ ag_D σ l y))) ∧ ∀ k, k < 16 → υ.2.1 21 k 0 = V (k % σ.1 0 0 0) (c (k % σ.1 0 0 0)) k ∧ υ.2.1 22 k 0 = V (k % σ.1 0 0 0) (min (c (k % σ.1 0 0 0)) (σ.1 4 (k % σ.1 0 0 0) 0)) k
theorem ag_fin {σ υ : gs_T} {V : Nat → Nat → Nat → Int32} {l : Nat} {c : Nat → Nat} (W : gw_W σ) (Wk : pp_W σ) (A : pp_A σ) (G : pp_G σ V) (N : ag_N σ υ V l c) (hno : ∀ y, y < σ.1 1 0 0 → ¬ (σ.2.1 3 y 0 = 1 ∧ ag_D σ l y)) : ∀ k, k < 16 → υ.2.1 22 k 0 = σ.2.1 19 k 0 := by
  intro k hk
  have hn0 : 0 < σ.1 0 0 0 := by have := gw_n2 W; omega
  have hg : k % σ.1 0 0 0 < σ.1 0 0 0 := Nat.mod_lt _ hn0
  rw [(N.2 k hk).2, ← G.2.1 k hk]
  have hle : σ.1 4 (k % σ.1 0 0 0) 0 ≤ c (k % σ.1 0 0 0) := by
    refine Nat.le_of_not_lt (fun hlt => ?_)
    have hw := gw_wc W (k % σ.1 0 0 0)
    obtain ⟨y, hy⟩ := gw_tn W hg (k := c (k % σ.1 0 0 0)) (by omega)
    have hp := gw_tp W hy
    have h15 := (Wk _ hg).1 _ y (by omega) hy
    rw [if_pos hlt] at h15
    have h3 := (A.1 y (gw_p W hp).2).2 _ hp h15
    have h9 := (N.1 _ _ y hg (by omega) hy).mpr ⟨h3, fun z => hno y (gw_p W hp).2 ⟨h3, z⟩⟩
    omega
  rw [Nat.min_eq_right hle]
set_option maxHeartbeats 4000000 in
theorem ag_st {σ υ : gs_T} {V : Nat → Nat → Nat → Int32} {l y : Nat} {c : Nat → Nat} (h1 : υ.1 = σ.1) (h2 : ∀ t, t ≠ 21 → t ≠ 22 → υ.2.1 t = σ.2.1 t) (W : gw_W σ) (S : pp_S σ) (T : pp_T σ) (R : pp_R σ) (Wk : pp_W σ) (A : pp_A σ) (G : pp_G σ V) (N : ag_N σ υ V l c) (hy : sc_na σ l (σ.1 1 0 0) = y + 1) : sc_rs υ y ∧ ag_N σ (sc_ra υ y) V (y + 1) (fun g => if σ.1 6 g y = 1 then c g + 1 else c g) := by
  obtain ⟨hy1, ⟨hy3, hyD⟩, hmin⟩ := (na_sp (σ := σ) (l := l) (σ.1 1 0 0)).2 y hy
  have h3 : σ.2.1 3 y 0 = 1 := by
    rcases (A.1 y hy1).1 with z | z
    · exact absurd z hy3
    · exact z.1
  have hn0 : 0 < σ.1 0 0 0 := by have := gw_n2 W; omega
  have hga := (S.1 (σ.1 13 y 0 % σ.1 0 0 0) y).mpr ⟨hy1, Or.inl rfl⟩
  have hgb := (S.1 (σ.1 14 y 0 % σ.1 0 0 0) y).mpr ⟨hy1, Or.inr rfl⟩
  have hpos : ∀ g, σ.1 6 g y = 1 → pp_k σ g y (c g) := fun g hp => by
    obtain ⟨⟨j, hj⟩, h10⟩ := ag_an W R A h3 hp
    have hg := (gw_p W hp).1
    have a1 : ¬ j < c g := fun z => ((N.1 g j y hg hj.2.1 hj.2.2).mp z).2 hyD
    have a2 : ¬ c g < j := fun z => by
      obtain ⟨p, hp2⟩ := gw_tn W hg (k := c g) (by have := hj.2.1; omega)
      have hpp := gw_tp W hp2
      have h15 := (Wk g hg).1 (c g) p (by have := hj.2.1; omega) hp2
      rw [if_pos (by have := hj.1; omega)] at h15
      have hp3 := (A.1 p (gw_p W hpp).2).2 g hpp h15
      have h9 := (R g hg).2.2.1 (c g) j p y z hj.2.1 hp2 hj.2.2
      have f1 := ag_ft W S T hpp ((R g hg).1 (c g) p (by have := hj.2.1; omega) hp2).2
      have f2 := ag_ft W S T hp h10
      have hnD : ¬ ag_D σ l p := fun zD => by
        have hne : ¬ p = y := fun e => by rw [e] at h9; unfold pp_b at h9; omega
        have h8 := hmin p (gw_p W hpp).2 (by rw [hp3]; decide) zD hne
        rw [bh_i, f1, f2] at h8
        unfold pp_b at h9
        omega
      have h7 := (N.1 g (c g) p hg (by have := hj.2.1; omega) hp2).mpr ⟨hp3, hnD⟩
      omega
    have e : j = c g := by omega
    rw [← e]; exact hj
  have pka := hpos _ hga
  have pkb := hpos _ hgb
  obtain ⟨g3a, g3b⟩ := G.2.2.1 y _ _ hy1 h3 pka pkb
  have ea := (N.2 _ (gw_a W y)).1
  have eb := (N.2 _ (gw_b W y)).1
  have n13 : υ.1 13 = σ.1 13 := by rw [h1]
  have n14 : υ.1 14 = σ.1 14 := by rw [h1]
  have i0 := h2 0 (by decide) (by decide)
  have i1 := h2 1 (by decide) (by decide)
  have e21 : ∀ k, (sc_r2 υ y).2.1 21 k 0 = pp_e σ y k (V (σ.1 13 y 0 % σ.1 0 0 0) (c (σ.1 13 y 0 % σ.1 0 0 0)) (σ.1 13 y 0)) (V (σ.1 14 y 0 % σ.1 0 0 0) (c (σ.1 14 y 0 % σ.1 0 0 0)) (σ.1 14 y 0)) (υ.2.1 21 k 0) := fun k => by
    rw [r2_21, sc_bA_fr n13 n14 i0 i1, sc_bB_fr n13 n14 i0 i1, h1, ea, eb]
    rfl
  have v21 : ∀ k, k < 16 → (sc_r2 υ y).2.1 21 k 0 = V (k % σ.1 0 0 0) (if σ.1 6 (k % σ.1 0 0 0) y = 1 then c (k % σ.1 0 0 0) + 1 else c (k % σ.1 0 0 0)) k := fun k hk => by
    rw [e21, (N.2 k hk).1]
    by_cases hp : σ.1 6 (k % σ.1 0 0 0) y = 1
    · rw [if_pos hp]
      rcases ((S.1 _ y).mp hp).2 with z | z
      · have e : c (k % σ.1 0 0 0) = c (σ.1 13 y 0 % σ.1 0 0 0) := by rw [z]
        rw [e]; exact ((g3b k hk).1 z).symm
      · have e : c (k % σ.1 0 0 0) = c (σ.1 14 y 0 % σ.1 0 0 0) := by rw [z]
        rw [e]; exact ((g3b k hk).2 z).symm
    · rw [if_neg hp]
      have ka : ¬ k = σ.1 13 y 0 := fun z => hp (by rw [z]; exact hga)
      have kb : ¬ k = σ.1 14 y 0 := fun z => hp (by rw [z]; exact hgb)
      unfold pp_e
      rw [if_neg ka, if_neg kb]
  refine ⟨?_, fun g j p hg hj hp2 => ?_, fun k hk => ⟨by rw [ra_21]; exact v21 k hk, ?_⟩⟩
  · unfold sc_rs
    rw [sc_rp_fr n13 n14 i0 i1, h1, ea, eb, h2 4 (by decide) (by decide)]
    exact g3a
  · have hpp := gw_tp W hp2
    have hDs : ag_D σ (y + 1) p ↔ sc_bh σ p y := by
      unfold ag_D
      rw [Nat.add_sub_cancel]
      exact ⟨fun z => by rcases z with z | z; omega; exact z, Or.inr⟩
    rw [hDs]
    have hold := N.1 g j p hg hj hp2
    have hkeep : j < c g → σ.2.1 3 p 0 = 1 ∧ ¬ sc_bh σ p y := fun z => by
      obtain ⟨a1, a2⟩ := hold.mp z
      refine ⟨a1, fun b => a2 ?_⟩
      rcases hyD with d | d
      · exact Or.inl d
      · rw [bh_i] at b d
        refine Or.inr ?_
        rw [bh_i]
        omega
    have hback : σ.2.1 3 p 0 = 1 → ¬ sc_bh σ p y → ¬ p = y → j < c g := fun a1 a2 a3 => by
      refine hold.mpr ⟨a1, fun zD => a2 ?_⟩
      exact hmin p (gw_p W hpp).2 (by rw [a1]; decide) zD a3
    show j < (if σ.1 6 g y = 1 then c g + 1 else c g) ↔ _
    by_cases hp : σ.1 6 g y = 1
    · rw [if_pos hp]
      have pkg := hpos g hp
      constructor
      · intro z
        by_cases hjc : j = c g
        · rw [hjc, pkg.2.2] at hp2
          have e : y = p := by omega
          rw [← e]
          exact ⟨h3, fun b => by rw [bh_i] at b; omega⟩
        · exact hkeep (by omega)
      · intro z
        by_cases hpy : p = y
        · rw [hpy] at hp2
          have := jr_uq R hg hj pkg.2.1 hp2 pkg.2.2
          omega
        · have := hback z.1 z.2 hpy; omega
    · rw [if_neg hp]
      have hpy : ¬ p = y := fun e => hp (by rw [← e]; exact hpp)
      exact ⟨hkeep, fun z => hback z.1 z.2 hpy⟩
  · have hiw : ∀ q, sc_iw υ y q ↔ (σ.1 6 (q % σ.1 0 0 0) y = 1 ∧ ¬ σ.2.1 15 (q % σ.1 0 0 0) y = 0) := fun q => by
      unfold sc_iw; rw [h1, h2 15 (by decide) (by decide)]
    have hg : k % σ.1 0 0 0 < σ.1 0 0 0 := Nat.mod_lt _ hn0
    have hcc : ((k = υ.1 14 y 0 ∧ sc_iw υ y (υ.1 14 y 0)) ∨ (k = υ.1 13 y 0 ∧ sc_iw υ y (υ.1 13 y 0))) ↔ ((k = σ.1 14 y 0 ∧ (σ.1 6 (σ.1 14 y 0 % σ.1 0 0 0) y = 1 ∧ ¬ σ.2.1 15 (σ.1 14 y 0 % σ.1 0 0 0) y = 0)) ∨ (k = σ.1 13 y 0 ∧ (σ.1 6 (σ.1 13 y 0 % σ.1 0 0 0) y = 1 ∧ ¬ σ.2.1 15 (σ.1 13 y 0 % σ.1 0 0 0) y = 0))) := by
      rw [hiw, hiw, h1]
    show _ = V (k % σ.1 0 0 0) (min (if σ.1 6 (k % σ.1 0 0 0) y = 1 then c (k % σ.1 0 0 0) + 1 else c (k % σ.1 0 0 0)) (σ.1 4 (k % σ.1 0 0 0) 0)) k
    rw [ra_22, v21 k hk, (N.2 k hk).2]
    by_cases hp : σ.1 6 (k % σ.1 0 0 0) y = 1
    · have pkg := hpos _ hp
      have h15 := (Wk _ hg).1 _ y pkg.2.1 pkg.2.2
      rw [if_pos hp]
      by_cases hlt : c (k % σ.1 0 0 0) < σ.1 4 (k % σ.1 0 0 0) 0
      · rw [if_pos hlt] at h15
        have em : min (c (k % σ.1 0 0 0) + 1) (σ.1 4 (k % σ.1 0 0 0) 0) = c (k % σ.1 0 0 0) + 1 := Nat.min_eq_left (by omega)
        have em2 : min (c (k % σ.1 0 0 0)) (σ.1 4 (k % σ.1 0 0 0) 0) = c (k % σ.1 0 0 0) := Nat.min_eq_left (by omega)
        rw [em, em2]
        by_cases hc : (k = υ.1 14 y 0 ∧ sc_iw υ y (υ.1 14 y 0)) ∨ (k = υ.1 13 y 0 ∧ sc_iw υ y (υ.1 13 y 0))
        · rw [if_pos hc]
        · rw [if_neg hc]
          rw [hcc] at hc
          have ka : ¬ k = σ.1 13 y 0 := fun z => hc (Or.inr ⟨z, by rw [← z]; exact ⟨hp, by rw [h15]; decide⟩⟩)
          have kb : ¬ k = σ.1 14 y 0 := fun z => hc (Or.inl ⟨z, by rw [← z]; exact ⟨hp, by rw [h15]; decide⟩⟩)
          have h9 := v21 k hk
          rw [if_pos hp, e21, (N.2 k hk).1] at h9
          unfold pp_e at h9
          rw [if_neg ka, if_neg kb] at h9
          exact h9
      · rw [if_neg hlt] at h15
        have em : min (c (k % σ.1 0 0 0) + 1) (σ.1 4 (k % σ.1 0 0 0) 0) = σ.1 4 (k % σ.1 0 0 0) 0 := Nat.min_eq_right (by omega)
        have em2 : min (c (k % σ.1 0 0 0)) (σ.1 4 (k % σ.1 0 0 0) 0) = σ.1 4 (k % σ.1 0 0 0) 0 := Nat.min_eq_right (by omega)
        rw [em, em2, if_neg]
        intro z
        rcases hcc.mp z with z | z
        · have h9 := z.2.2
          rw [← z.1] at h9
          exact h9 h15
        · have h9 := z.2.2
          rw [← z.1] at h9
          exact h9 h15
    · rw [if_neg hp, if_neg]
      intro z
      rcases hcc.mp z with z | z
      · exact hp (by rw [z.1]; exact hgb)
      · exact hp (by rw [z.1]; exact hga)
theorem ag_rl {σ : gs_T} {V : Nat → Nat → Nat → Int32} (W : gw_W σ) (S : pp_S σ) (T : pp_T σ) (R : pp_R σ) (Wk : pp_W σ) (A : pp_A σ) (G : pp_G σ V) : ∀ (m l : Nat) (υ : gs_T) (c : Nat → Nat), υ.1 = σ.1 → (∀ t, t ≠ 21 → t ≠ 22 → υ.2.1 t = σ.2.1 t) → ag_N σ υ V l c → ti_cn (fun y => σ.2.1 3 y 0 = 1 ∧ ag_D σ l y) (σ.1 1 0 0) ≤ m → (sc_rl m (sc_na σ l (σ.1 1 0 0)) υ).1 = true ∧ ∀ k, k < 16 → (sc_rl m (sc_na σ l (σ.1 1 0 0)) υ).2.2.1 22 k 0 = σ.2.1 19 k 0 := by
  intro m
  induction m with
  | zero =>
    intro l υ c h1 h2 N hm
    exact ⟨rfl, ag_fin W Wk A G N (cn_zero hm)⟩
  | succ m ih =>
    intro l υ c h1 h2 N hm
    rcases h0 : sc_na σ l (σ.1 1 0 0) with _ | y
    · rw [sc_rl, if_pos rfl]
      refine ⟨rfl, ag_fin W Wk A G N (fun y hy z => ?_)⟩
      exact (na_sp (σ := σ) (l := l) _).1 h0 y hy ⟨by rw [z.1]; decide, z.2⟩
    · obtain ⟨a1, a2⟩ := ag_st h1 h2 W S T R Wk A G N h0
      obtain ⟨hy1, ⟨hy3, hyD⟩, hmin⟩ := (na_sp (σ := σ) (l := l) (σ.1 1 0 0)).2 y h0
      have h3 : σ.2.1 3 y 0 = 1 := by
        rcases (A.1 y hy1).1 with z | z
        · exact absurd z hy3
        · exact z.1
      have f1 : (sc_ra υ y).1 = σ.1 := by rw [sc_ra_1, h1]
      have f2 : ∀ t, t ≠ 21 → t ≠ 22 → (sc_ra υ y).2.1 t = σ.2.1 t := fun t t1 t2 => by rw [ra_i t1 t2, h2 t t1 t2]
      rw [sc_rl, if_neg (by omega), Nat.add_sub_cancel, if_pos a1, na_fr f1 f2, h1]
      refine ih (y + 1) _ _ f1 f2 a2 ?_
      have hDs : ∀ p, ag_D σ (y + 1) p ↔ sc_bh σ p y := fun p => by
        unfold ag_D
        rw [Nat.add_sub_cancel]
        exact ⟨fun z => by rcases z with z | z; omega; exact z, Or.inr⟩
      have h9 := ti_cn_sub (p := fun p => σ.2.1 3 p 0 = 1 ∧ ag_D σ (y + 1) p) (q := fun p => σ.2.1 3 p 0 = 1 ∧ ag_D σ l p) (j := y) hy1 ⟨h3, hyD⟩ (fun z => by
          have := (hDs y).mp z.2
          rw [bh_i] at this
          omega) (fun p _ z => ⟨z.1, by
          have b := (hDs p).mp z.2
          rcases hyD with d | d
          · exact Or.inl d
          · rw [bh_i] at b d
            refine Or.inr ?_
            rw [bh_i]
            omega⟩)
      omega
theorem ag_kc {υ : gs_T} : ∀ m q, (∀ k, q ≤ k → k < q + m → υ.2.1 19 k 0 = υ.2.1 22 k 0) → sc_kc υ m q = true := by
  intro m
  induction m with
  | zero => intro q _; rfl
  | succ m ih =>
    intro q h
    rw [sc_kc, if_pos (h q (by omega) (by omega))]
    exact ih (q + 1) (fun k h1 h2 => h k (by omega) (by omega))
theorem ag_rg {σ μ : gs_T} (J : jj_J σ μ) : (sc_rg σ).1 = true := by
  obtain ⟨_, ⟨W, S, T, L, R, Wk, A, F⟩, V, G⟩ := J
  obtain ⟨r1, r2, r3, r4⟩ := r0_i (σ := σ)
  have N0 : ag_N σ (sc_r0 σ) V 0 (fun _ => 0) := by
    refine ⟨fun g j y _ _ _ => ⟨fun z => absurd z (Nat.not_lt_zero _), fun z => absurd (Or.inl rfl) z.2⟩, fun k hk => ?_⟩
    rw [(r4 k hk).1, (r4 k hk).2, Nat.zero_min]
    exact ⟨(G.1 k hk).symm, (G.1 k hk).symm⟩
  have h9 := ag_rl W S T R Wk A G (σ.1 1 0 0) 0 (sc_r0 σ) (fun _ => 0) r1 r2 N0 (ti_cn_le _ _)
  rw [← na_fr r1 r2] at h9
  unfold sc_rg
  rw [if_pos h9.1]
  refine ag_kc 16 0 (fun k _ hk => ?_)
  rw [h9.2 k (by omega), rl_i.1 19 (by decide) (by decide), r2 19 (by decide) (by decide)]
theorem gl_agree {B k : Nat} {σ : gs_T} (I : gl_I B k σ) : gv_V (sc_ags σ) ∧ (sc_ags σ).1 31 0 0 = 1 ∧ gs_bi (sc_agr σ) = sm_ag (sc_ags σ) ((sc_ags σ).1 100 0 0) 0 1 ∧ gl_I B (k + 1) (sc_ags σ) := by
  have J := jJ_mu (yc_ags gy_C0) I.1
  have hA := J.1.1
  obtain ⟨a1, a2, a3⟩ := ags_i (σ := σ)
  obtain ⟨_, ⟨W, S, T, L, R, Wk, A, F⟩, _⟩ := J
  have J := jJ_mu (yc_ags gy_C0) I.1
  refine ⟨hA.2.2.2.2.1, hA.2.2.2.2.2, ?_, ?_⟩
  · have h : sc_agr σ := ⟨⟨ag_go W S T R _ 0 (by omega), ag_co W S T R A _ 0 (by omega)⟩, ag_rg J⟩
    rw [gs_bi, if_pos h, hA.1, ag_ag J _ 0 (by omega)]
  · obtain ⟨I1, I2, I3, I4, I5⟩ := I
    refine ⟨jJ_21 a1 a2 a3 J, by rw [a1]; exact I2, ?_, by rw [a1]; omega, by rw [a1]; omega⟩
    rw [a2 5 (by decide) (by decide)]; omega
