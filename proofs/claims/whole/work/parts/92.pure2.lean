/-! pure: an order's groups; a final time is made -/
theorem js_two {τ : gs_T} (W : gw_W τ) (S : pp_S τ) {g o : Nat} (hp : τ.1 6 g o = 1) : (τ.1 7 g o = 0 ∧ ∀ q, τ.1 6 q o = 1 → q = g) ∨ ∃ g', τ.1 7 g o = g' + 1 ∧ ¬ g' = g ∧ τ.1 6 g' o = 1 ∧ τ.1 7 g' o = g + 1 ∧ ∀ q, τ.1 6 q o = 1 → q = g ∨ q = g' := by
  have hs := (S.1 g o).mp hp
  have h7 := S.2.1 g o hp
  by_cases hab : τ.1 13 o 0 % τ.1 0 0 0 = τ.1 14 o 0 % τ.1 0 0 0
  · rw [if_pos hab] at h7
    refine Or.inl ⟨h7, fun q hq => ?_⟩
    have := (S.1 q o).mp hq
    omega
  · rw [if_neg hab] at h7
    right
    by_cases hg : g = τ.1 13 o 0 % τ.1 0 0 0
    · rw [if_pos hg] at h7
      have hp' : τ.1 6 (τ.1 14 o 0 % τ.1 0 0 0) o = 1 := (S.1 _ o).mpr ⟨hs.1, Or.inr rfl⟩
      have h7' := S.2.1 _ o hp'
      rw [if_neg hab, if_neg (fun e => hab e.symm)] at h7'
      refine ⟨τ.1 14 o 0 % τ.1 0 0 0, h7, by omega, hp', by omega, fun q hq => ?_⟩
      have := (S.1 q o).mp hq
      omega
    · rw [if_neg hg] at h7
      have hp' : τ.1 6 (τ.1 13 o 0 % τ.1 0 0 0) o = 1 := (S.1 _ o).mpr ⟨hs.1, Or.inl rfl⟩
      have h7' := S.2.1 _ o hp'
      rw [if_neg hab, if_pos rfl] at h7'
      refine ⟨τ.1 13 o 0 % τ.1 0 0 0, h7, by omega, hp', by omega, fun q hq => ?_⟩
      have := (S.1 q o).mp hq
      omega
theorem jf_ga {μ : gs_T} {g o : Nat} : ∀ m : Nat, (0 ≤ (sm_ga μ g o m).1.toInt ∧ (∀ q, q < m → gv_of μ q o → (μ.2.1 119 (4 * (40 * g + o) + q) 0).toInt ≤ (sm_ga μ g o m).1.toInt) ∧ ((sm_ga μ g o m).1.toInt = 0 ∨ ∃ q, q < m ∧ gv_of μ q o ∧ (sm_ga μ g o m).1 = μ.2.1 119 (4 * (40 * g + o) + q) 0)) ∧ ((sm_ga μ g o m).2 = 0 ↔ ∃ q, q < m ∧ gv_of μ q o ∧ (μ.2.1 119 (4 * (40 * g + o) + q) 0).toInt ≤ 0) := by
  intro m
  induction m with
  | zero => exact ⟨⟨Int.le_of_eq ti_0.symm, fun q hq => absurd hq (Nat.not_lt_zero _), Or.inl ti_0⟩, ⟨fun h => absurd (show (1 : Int32) = 0 from h) (by decide), fun ⟨q, hq, _⟩ => absurd hq (Nat.not_lt_zero _)⟩⟩
  | succ m ih =>
    obtain ⟨⟨a1, a2, a3⟩, a4⟩ := ih
    rw [sm_ga]
    by_cases hf : gv_of μ m o
    · rw [if_pos hf]
      generalize hl : μ.2.1 119 (4 * (40 * g + o) + m) 0 = l
      have hle : (l ≤ (sm_ga μ g o m).1) ↔ l.toInt ≤ (sm_ga μ g o m).1.toInt := ti_le
      have hl0 : l ≤ 0 ↔ l.toInt ≤ 0 := by rw [ti_le, ti_0]
      refine ⟨⟨?_, ?_, ?_⟩, ?_⟩
      · show 0 ≤ (if l ≤ (sm_ga μ g o m).1 then (sm_ga μ g o m).1 else l).toInt
        split
        · omega
        · rename_i h; rw [ti_le] at h; omega
      · intro q hq hof
        show _ ≤ (if l ≤ (sm_ga μ g o m).1 then (sm_ga μ g o m).1 else l).toInt
        by_cases hqm : q = m
        · rw [hqm, hl]
          split
          · rename_i h; rw [ti_le] at h; omega
          · omega
        · have := a2 q (by omega) hof
          split
          · omega
          · rename_i h; rw [ti_le] at h; omega
      · show (if l ≤ (sm_ga μ g o m).1 then (sm_ga μ g o m).1 else l).toInt = 0 ∨ ∃ q, q < m + 1 ∧ gv_of μ q o ∧ (if l ≤ (sm_ga μ g o m).1 then (sm_ga μ g o m).1 else l) = _
        split
        · rcases a3 with a3 | ⟨q, h1, h2, h3⟩
          · exact Or.inl a3
          · exact Or.inr ⟨q, by omega, h2, h3⟩
        · exact Or.inr ⟨m, by omega, hf, hl.symm⟩
      · show (if (sm_ga μ g o m).2 = 0 then (0 : Int32) else if l ≤ 0 then 0 else 1) = 0 ↔ _
        by_cases h0 : (sm_ga μ g o m).2 = 0
        · rw [if_pos h0]
          obtain ⟨q, h1, h2, h3⟩ := a4.mp h0
          exact ⟨fun _ => ⟨q, by omega, h2, h3⟩, fun _ => rfl⟩
        · rw [if_neg h0]
          by_cases h1 : l ≤ 0
          · rw [if_pos h1]
            exact ⟨fun _ => ⟨m, by omega, hf, by rw [hl]; exact hl0.mp h1⟩, fun _ => rfl⟩
          · rw [if_neg h1]
            constructor
            · intro h; exact absurd h (by decide)
            · intro ⟨q, h2, h3, h4⟩
              by_cases hqm : q = m
              · rw [hqm, hl] at h4; exact absurd (hl0.mpr h4) h1
              · exact absurd (a4.mpr ⟨q, by omega, h3, h4⟩) h0
    · rw [if_neg hf]
      refine ⟨⟨a1, fun q hq hof => ?_, ?_⟩, ?_⟩
      · by_cases hqm : q = m
        · rw [hqm] at hof; exact absurd hof hf
        · exact a2 q (by omega) hof
      · rcases a3 with a3 | ⟨q, h1, h2, h3⟩
        · exact Or.inl a3
        · exact Or.inr ⟨q, by omega, h2, h3⟩
      · rw [a4]
        constructor
        · intro ⟨q, h1, h2, h3⟩; exact ⟨q, by omega, h2, h3⟩
        · intro ⟨q, h1, h2, h3⟩
          by_cases hqm : q = m
          · rw [hqm] at h2; exact absurd h2 hf
          · exact ⟨q, by omega, h2, h3⟩
theorem ti_tmi {x : Int32} (h : x.toInt = -1 ∨ 0 < x.toInt) : (ti_tm x).toInt = if x.toInt = -1 then 0 else x.toInt := by
  unfold ti_tm
  by_cases h1 : x = -1
  · rw [if_pos h1, h1, if_pos ti_m1, ti_0]
  · rw [if_neg h1, if_neg (fun z => h1 (ti_eq.mpr (by rw [z, ti_m1])))]
theorem jq_9 {τ μ : gs_T} (J : jj_J τ μ) {g o : Nat} (hp : τ.1 6 g o = 1) : (τ.2.1 9 g o).toInt = -1 ∨ 0 < (τ.2.1 9 g o).toInt := by
  have h1 := (J.2.1.2.2.1.2.2.2.2 g o hp).2.1
  rcases js_two J.2.1.1 J.2.1.2.1 hp with h | ⟨g', h, _, hp', _⟩
  · omega
  · rw [show τ.1 7 g o - 1 = g' by omega] at h1
    have := jq_8 J hp'
    omega
theorem jn_m1 {x : Int32} : x = -1 ↔ x.toInt = -1 := by rw [ti_eq, ti_m1]
/-- the model is ready to make o final just where the class is, at the same time -/
theorem jf_eq {τ μ : gs_T} (J : jj_J τ μ) {g o : Nat} (hp : τ.1 6 g o = 1) : (¬ (sm_ga μ g o (μ.1 100 0 0)).2 = 0 ↔ sc_hal τ g o) ∧ (sc_hal τ g o → (sm_ga μ g o (μ.1 100 0 0)).1 = sc_mfv τ g o) := by
  have hn := jq_n J
  obtain ⟨⟨a1, a2, a3⟩, a4⟩ := jf_ga (μ := μ) (g := g) (o := o) (μ.1 100 0 0)
  have hg := (gw_p J.2.1.1 hp).1
  have ho := (gw_p J.2.1.1 hp).2
  have k8 := jq_8 J hp
  have k9 := jq_9 J hp
  have e8 := (J.1.2.2.2.2.2.1 g o hp).2.1
  have t8 : (μ.2.1 119 (4 * (40 * g + o) + g) 0).toInt = if (τ.2.1 8 g o).toInt = -1 then 0 else (τ.2.1 8 g o).toInt := by rw [e8, ti_tmi k8]
  have h9 := (J.2.1.2.2.1.2.2.2.2 g o hp).2.1
  have hv : (sc_mfv τ g o).toInt = max (τ.2.1 8 g o).toInt (τ.2.1 9 g o).toInt := ti_mx _ _
  have hN := J.1.1.1
  unfold sc_hal
  rw [jn_m1, jn_m1, a4]
  rcases js_two J.2.1.1 J.2.1.2.1 hp with ⟨h7, hu⟩ | ⟨g', h7, hne, hp', h7', hu⟩
  · have hof : gv_of μ g o := (jq_of J ho).mpr hp
    have ga := a2 g (by omega) hof
    constructor
    · constructor
      · intro h
        refine ⟨fun z => h ⟨g, by omega, hof, ?_⟩, Or.inl h7⟩
        rw [t8, if_pos z]
        exact Int.le_refl _
      · intro h ⟨q, h1, h2, h3⟩
        have := hu q ((jq_of J ho).mp h2)
        rw [this, t8, if_neg h.1] at h3
        omega
    · intro h
      rw [ti_eq, hv]
      rw [t8, if_neg h.1] at ga
      rcases a3 with a3 | ⟨q, h1, h2, h3⟩
      · omega
      · have := hu q ((jq_of J ho).mp h2)
        rw [h3, this, t8, if_neg h.1]
        omega
  · have hof : gv_of μ g o := (jq_of J ho).mpr hp
    have hof' : gv_of μ g' o := (jq_of J ho).mpr hp'
    have hg' := (gw_p J.2.1.1 hp').1
    have ga := a2 g (by omega) hof
    have gb := a2 g' (by omega) hof'
    have e9 := ((J.1.2.2.2.2.2.1 g o hp).2.2.2.2.2 g' h7).1
    have t9 : (μ.2.1 119 (4 * (40 * g + o) + g') 0).toInt = if (τ.2.1 9 g o).toInt = -1 then 0 else (τ.2.1 9 g o).toInt := by rw [e9, ti_tmi k9]
    constructor
    · constructor
      · intro h
        refine ⟨fun z => h ⟨g, by omega, hof, ?_⟩, Or.inr (fun z => h ⟨g', by omega, hof', ?_⟩)⟩
        · rw [t8, if_pos z]; exact Int.le_refl _
        · rw [t9, if_pos z]; exact Int.le_refl _
      · intro h ⟨q, h1, h2, h3⟩
        have hb : ¬ (τ.2.1 9 g o).toInt = -1 := by rcases h.2 with h | h; omega; exact h
        rcases hu q ((jq_of J ho).mp h2) with e | e
        · rw [e, t8, if_neg h.1] at h3; omega
        · rw [e, t9, if_neg hb] at h3; omega
    · intro h
      have hb : ¬ (τ.2.1 9 g o).toInt = -1 := by rcases h.2 with h | h; omega; exact h
      rw [ti_eq, hv]
      rw [t8, if_neg h.1] at ga
      rw [t9, if_neg hb] at gb
      rcases a3 with a3 | ⟨q, h1, h2, h3⟩
      · omega
      · rcases hu q ((jq_of J ho).mp h2) with e | e
        · rw [e] at h3
          rw [h3, t8, if_neg h.1] at gb ⊢
          omega
        · rw [e] at h3
          rw [h3, t9, if_neg hb] at ga ⊢
          omega
