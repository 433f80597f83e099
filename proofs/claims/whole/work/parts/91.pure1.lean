/-! pure: the questions -/
theorem jq_in {x : Int32} {N : Nat} (h : 0 ≤ x ∧ x < nI N) (hN : N < 2 ^ 31) : x.toNatClampNeg < N := (gs_ixl rfl h hN).2
theorem jq_n {τ μ : gs_T} (J : jj_J τ μ) : τ.1 0 0 0 ≤ 4 ∧ 2 ≤ τ.1 0 0 0 ∧ τ.1 1 0 0 ≤ 40 ∧ τ.1 2 0 0 ≤ 240 := ⟨gw_n4 J.2.1.1, gw_n2 J.2.1.1, gw_cnt J.2.1.1, gw_fl J.2.1.1⟩
theorem jq_value {τ μ : gs_T} (J : jj_J τ μ) (x : Int32) : sc_value τ x = sm_value μ x := by
  unfold sc_value sm_value
  split
  · rename_i h
    exact (J.1.2.2.2.1.1 _ (jq_in (N := 16) h (by decide))).symm
  · rfl
theorem jq_clock {τ μ : gs_T} (J : jj_J τ μ) (x : Int32) : sc_clock τ x = sm_clock μ x := by
  unfold sc_clock sm_clock
  rw [J.1.1.1]
  split
  · rename_i h
    exact (J.1.2.2.1 _ (jq_in h (by have := jq_n J; omega))).1.symm
  · rfl
theorem jq_seen {τ μ : gs_T} (J : jj_J τ μ) (x : Int32) : sc_seen τ x = sm_seen μ x := by
  unfold sc_seen sm_seen
  split
  · rename_i h
    exact (J.1.2.2.2.1.2 _ (jq_in (N := 4) h (by decide))).symm
  · rfl
theorem jq_answered {τ μ : gs_T} (J : jj_J τ μ) (x : Int32) : sc_answered τ x = sm_answered μ x := by
  unfold sc_answered sm_answered
  rw [J.1.1.2.1]
  split
  · rename_i h
    rw [(J.1.2.1.1 _ (jq_in h (by have := jq_n J; omega))).2.2.2.2.2.2.1]
  · rfl
theorem jq_answer {τ μ : gs_T} (J : jj_J τ μ) (x : Int32) : sc_answer τ x = sm_answer μ x := by
  unfold sc_answer sm_answer sc_answered
  rw [J.1.1.2.1]
  by_cases h : 0 ≤ x ∧ x < nI (τ.1 1 0 0)
  · rw [if_pos h, if_pos h]
    have h9 := J.1.2.1.1 _ (jq_in h (by have := jq_n J; omega))
    rw [h9.2.2.2.2.2.2.1]
    by_cases h0 : τ.2.1 3 x.toNatClampNeg 0 = 0
    · rw [if_pos h0, if_pos h0]; rfl
    · rw [if_neg h0, if_neg h0, if_neg (by decide), h9.2.2.2.2.2.2.2 h0]
  · rw [if_neg h, if_neg h]; rfl
theorem jq_taken {τ μ : gs_T} (J : jj_J τ μ) (x y : Int32) : sc_taken τ x y = sm_taken μ x y := by
  have hn := jq_n J
  unfold sc_taken sm_taken
  rw [J.1.1.1]
  split
  · rename_i h
    have hg := jq_in h (by omega)
    have h9 := J.1.2.2.2.2.1 _ hg
    rw [h9.1]
    have h40 := gw_tc J.2.1.1 x.toNatClampNeg
    split
    · rename_i h2
      rw [h9.2 _ (jq_in h2 (by omega))]
      rfl
    · rfl
  · rfl
theorem jq_tm {x : Int32} (h : x.toInt = -1 ∨ 0 < x.toInt) : (if ti_tm x = 0 then -1 else ti_tm x) = x := by
  unfold ti_tm
  by_cases h1 : x = -1
  · rw [if_pos h1, if_pos rfl, h1]
  · rw [if_neg h1]
    rw [ti_eq, ti_m1] at h1
    rw [if_neg (fun z => by rw [z, ti_0] at h; omega)]
theorem jq_8 {τ μ : gs_T} (J : jj_J τ μ) {g o : Nat} (hp : τ.1 6 g o = 1) : (τ.2.1 8 g o).toInt = -1 ∨ 0 < (τ.2.1 8 g o).toInt := by
  have h1 := (J.2.1.2.2.1.2.2.2.2 g o hp).1
  have h2 := J.2.1.2.2.1.2.2.2.1 o (gw_p J.2.1.1 hp).2
  omega
theorem jq_10 {τ μ : gs_T} (J : jj_J τ μ) {g o : Nat} (hp : τ.1 6 g o = 1) : (τ.2.1 10 g o).toInt = -1 ∨ 0 < (τ.2.1 10 g o).toInt := by
  have h0 := jq_8 J hp
  have h1 := (J.2.1.2.2.1.2.2.2.2 g o hp).2.2
  omega
theorem jq_time {τ μ : gs_T} (J : jj_J τ μ) (x y z : Int32) : sc_time τ x y z = sm_time μ x y z := by
  have hn := jq_n J
  unfold sc_time sm_time
  rw [J.1.1.1, J.1.1.2.1]
  split
  · rename_i hx
    have ho := jq_in hx (by omega)
    split
    · rename_i hy
      have hg := jq_in hy (by omega)
      generalize x.toNatClampNeg = o at *
      generalize y.toNatClampNeg = g at *
      by_cases hz : 0 ≤ z ∧ z < 3
      · rw [if_pos hz]
        by_cases z0 : z = 0
        · subst z0
          rw [if_pos rfl, if_neg (show ¬ (0 : Int32) = 2 by decide), if_pos rfl]
          by_cases hp : τ.1 6 g o = 1
          · rw [if_pos hp, (J.1.2.2.2.2.2.1 g o hp).2.1, jq_tm (jq_8 J hp)]
          · rw [if_neg hp, ((J.1.2.2.2.2.2.2.1 g o hg (by omega) hp).2.2.2.2.2 g (by omega)).1, if_pos rfl]
        · rw [if_neg z0]
          by_cases z1 : z = 1
          · subst z1
            rw [if_pos rfl, if_neg (show ¬ (1 : Int32) = 2 by decide), if_neg (show ¬ (1 : Int32) = 0 by decide)]
            by_cases hp : τ.1 6 g o = 1
            · rw [if_pos hp, (J.1.2.2.2.2.2.1 g o hp).2.2.1, jq_tm (jq_10 J hp)]
            · rw [if_neg hp, (J.1.2.2.2.2.2.2.1 g o hg (by omega) hp).2.1, if_pos rfl]
          · rw [if_neg z1]
            have z2 : z = 2 := by
              rw [ti_eq] at z0 z1 ⊢
              rw [ti_le, ti_lt] at hz
              have e3 : (3 : Int32).toInt = 3 := by decide
              have e2 : (2 : Int32).toInt = 2 := by decide
              rw [ti_0] at z0 hz
              rw [ti_1] at z1
              omega
            subst z2
            rw [if_pos rfl, if_pos rfl]
            by_cases hp : τ.1 6 g o = 1
            · rw [if_pos hp, (J.1.2.2.2.2.2.1 g o hp).2.2.2.2.1]
            · rw [if_neg hp, (J.1.2.2.2.2.2.2.1 g o hg (by omega) hp).2.2.2.2.1, if_pos rfl]
      · rw [if_neg hz, if_neg (fun e => hz (by rw [e]; decide)), if_neg (fun e => hz (by rw [e]; decide)), if_neg (fun e => hz (by rw [e]; decide))]
    · rfl
  · rfl
theorem jq_flight {τ μ : gs_T} (J : jj_J τ μ) (x z : Int32) : sc_flight τ x z = sm_flight μ x z := by
  have hn := jq_n J
  unfold sc_flight sm_flight
  rw [J.1.1.2.2.1]
  split
  · rename_i hx
    have hi := jq_in hx (by omega)
    obtain ⟨m1, m2, m3, m4, m5, m6, m7⟩ := J.1.2.2.2.2.2.2.2 _ hi
    generalize x.toNatClampNeg = i at *
    rw [m1, m2, ← m3, m4, m5]
    by_cases hz : 0 ≤ z ∧ z < 5
    · rw [if_pos hz]
      by_cases z0 : z = 0
      · rw [if_pos z0, if_pos z0]
      · rw [if_neg z0, if_neg z0]
        by_cases z1 : z = 1
        · rw [if_pos z1, if_pos z1]
        · rw [if_neg z1, if_neg z1]
          by_cases z2 : z = 2
          · rw [if_pos z2, if_pos z2]
          · rw [if_neg z2, if_neg z2]
            by_cases z3 : z = 3
            · rw [if_pos z3, if_pos z3]
            · rw [if_neg z3, if_neg z3]
              have z4 : z = 4 := by
                rw [ti_eq] at z0 z1 z2 z3 ⊢
                rw [ti_le, ti_lt] at hz
                have e5 : (5 : Int32).toInt = 5 := by decide
                have e4 : (4 : Int32).toInt = 4 := by decide
                have e3 : (3 : Int32).toInt = 3 := by decide
                have e2 : (2 : Int32).toInt = 2 := by decide
                rw [ti_0] at z0 hz
                rw [ti_1] at z1
                omega
              rw [if_pos z4]
    · rw [if_neg hz, if_neg (fun e => hz (by rw [e]; decide)), if_neg (fun e => hz (by rw [e]; decide)), if_neg (fun e => hz (by rw [e]; decide)), if_neg (fun e => hz (by rw [e]; decide)), if_neg (fun e => hz (by rw [e]; decide))]
  · rfl
theorem jq_ca {τ μ : gs_T} (J : jj_J τ μ) (m q : Nat) (c : Int32) (h : q + m = τ.1 1 0 0) : sc_ca τ m q c = sm_ca μ m q c := by
  induction m generalizing q c with
  | zero => rfl
  | succ m ih =>
    rw [sc_ca, sm_ca, ih (q + 1) _ (by omega), (J.1.2.1.1 q (by omega)).2.2.2.2.2.2.1]
    by_cases h0 : τ.2.1 3 q 0 = 0
    · rw [if_pos h0, if_pos h0, Int32.add_zero]
    · rw [if_neg h0, if_neg h0]
/-- the model's groups of an order are the class's parts -/
theorem jq_of {τ μ : gs_T} (J : jj_J τ μ) {g o : Nat} (ho : o < τ.1 1 0 0) : gv_of μ g o ↔ τ.1 6 g o = 1 := by
  have h9 := J.1.2.1.1 o ho
  have hk := J.2.1.2.1.2.2 o ho
  unfold gv_of
  rw [J.1.1.1, h9.2.1, h9.2.2.1, J.2.1.2.1.1]
  have h14 := h9.2.2.2.1
  by_cases h0 : τ.2.1 0 o 0 = 0
  · rw [if_pos h0] at h14
    rw [h14]
    constructor
    · intro h; exact ⟨ho, Or.inl (by rcases h with h | h; exact h.symm; exact absurd h0 h.1)⟩
    · intro h; left; rcases h.2 with h | h <;> exact h.symm
  · rw [if_neg h0] at h14
    rw [h14]
    constructor
    · intro h; exact ⟨ho, by rcases h with h | h; exact Or.inl h.symm; exact Or.inr h.2.symm⟩
    · intro h; rcases h.2 with h | h; exact Or.inl h.symm; exact Or.inr ⟨h0, h.symm⟩
theorem jq_da {μ : gs_T} {o : Nat} : ∀ (m q : Nat) (x : Int32), (sm_da μ o m q x = 0 ↔ (x = 0 ∨ ∃ g, q ≤ g ∧ g < q + m ∧ gv_of μ g o ∧ μ.2.1 118 (40 * g + o) 0 = 0)) := by
  intro m
  induction m with
  | zero => intro q x; exact ⟨fun h => Or.inl h, fun h => by rcases h with h | ⟨g, h1, h2, _⟩; exact h; omega⟩
  | succ m ih =>
    intro q x
    rw [sm_da, ih]
    by_cases hx : x = 0
    · rw [if_pos hx]; exact ⟨fun _ => Or.inl hx, fun _ => Or.inl rfl⟩
    · rw [if_neg hx]
      by_cases hf : gv_of μ q o
      · rw [if_pos hf]
        by_cases hw : μ.2.1 118 (40 * q + o) 0 = 0
        · rw [if_pos hw]
          exact ⟨fun _ => Or.inr ⟨q, Nat.le_refl _, by omega, hf, hw⟩, fun _ => Or.inl rfl⟩
        · rw [if_neg hw]
          constructor
          · intro h
            rcases h with h | ⟨g, h1, h2, h3, h4⟩
            · exact absurd h (by decide)
            · exact Or.inr ⟨g, by omega, by omega, h3, h4⟩
          · intro h
            rcases h with h | ⟨g, h1, h2, h3, h4⟩
            · exact absurd h hx
            · right
              by_cases hg : g = q
              · rw [hg] at h4; exact absurd h4 hw
              · exact ⟨g, by omega, by omega, h3, h4⟩
      · rw [if_neg hf]
        constructor
        · intro h
          rcases h with h | ⟨g, h1, h2, h3, h4⟩
          · exact absurd h (by decide)
          · exact Or.inr ⟨g, by omega, by omega, h3, h4⟩
        · intro h
          rcases h with h | ⟨g, h1, h2, h3, h4⟩
          · exact absurd h hx
          · right
            by_cases hg : g = q
            · rw [hg] at h3; exact absurd h3 hf
            · exact ⟨g, by omega, by omega, h3, h4⟩
theorem jq_dn {τ μ : gs_T} (J : jj_J τ μ) (m q : Nat) (c : Int32) (h : q + m = τ.1 1 0 0) : sc_cw τ m q c = sm_dn μ m q c := by
  have hn := jq_n J
  induction m generalizing q c with
  | zero => rfl
  | succ m ih =>
    have hq : q < τ.1 1 0 0 := by omega
    rw [sc_cw, sm_dn, ih (q + 1) _ (by omega)]
    have key : (sc_iw τ q (τ.1 13 q 0) ∧ sc_iw τ q (τ.1 14 q 0)) ↔ ¬ sm_da μ q (μ.1 100 0 0) 0 1 = 0 := by
      rw [jq_da, J.1.1.1]
      have ma := Nat.mod_lt (τ.1 13 q 0) (show 0 < τ.1 0 0 0 by omega)
      have mb := Nat.mod_lt (τ.1 14 q 0) (show 0 < τ.1 0 0 0 by omega)
      have pa : τ.1 6 (τ.1 13 q 0 % τ.1 0 0 0) q = 1 := (J.2.1.2.1.1 _ _).mpr ⟨hq, Or.inl rfl⟩
      have pb_ : τ.1 6 (τ.1 14 q 0 % τ.1 0 0 0) q = 1 := (J.2.1.2.1.1 _ _).mpr ⟨hq, Or.inr rfl⟩
      constructor
      · intro hh hc
        rcases hc with hc | ⟨g, h1, h2, h3, h4⟩
        · exact absurd hc (by decide)
        · have hp := (jq_of J hq).mp h3
          rw [(J.1.2.2.2.2.2.1 g q hp).2.2.2.2.1] at h4
          rcases ((J.2.1.2.1.1 g q).mp hp).2 with e | e
          · rw [e] at h4; exact hh.1.2 h4
          · rw [e] at h4; exact hh.2.2 h4
      · intro hh
        refine ⟨⟨pa, fun e => hh (Or.inr ⟨_, Nat.zero_le _, by omega, (jq_of J hq).mpr pa, ?_⟩)⟩, ⟨pb_, fun e => hh (Or.inr ⟨_, Nat.zero_le _, by omega, (jq_of J hq).mpr pb_, ?_⟩)⟩⟩
        · rw [(J.1.2.2.2.2.2.1 _ q pa).2.2.2.2.1]; exact e
        · rw [(J.1.2.2.2.2.2.1 _ q pb_).2.2.2.2.1]; exact e
    by_cases hh : sc_iw τ q (τ.1 13 q 0) ∧ sc_iw τ q (τ.1 14 q 0)
    · rw [if_pos hh, if_neg (key.mp hh)]
    · rw [if_neg hh, if_pos (Classical.byContradiction (fun z => hh (key.mpr z))), Int32.add_zero]
theorem jq_count {τ μ : gs_T} (J : jj_J τ μ) (x : Int32) : sc_count τ x = sm_count μ x := by
  unfold sc_count sm_count
  rw [J.1.1.1, J.1.1.2.1, J.1.1.2.2.2.1, jq_ca J _ _ _ (Nat.zero_add _), jq_dn J _ _ _ (Nat.zero_add _)]
