/-! pure: the class's and the model's choices; the loops that make final and take -/
theorem jt_ew {τ : gs_T} {g : Nat} : ∀ m, (sc_ew τ g m = 0 → ∀ y, y < m → ¬ (τ.1 6 g y = 1 ∧ sc_wt τ g y)) ∧ ∀ e, sc_ew τ g m = e + 1 → e < m ∧ (τ.1 6 g e = 1 ∧ sc_wt τ g e) ∧ ∀ y, y < m → τ.1 6 g y = 1 → sc_wt τ g y → ¬ y = e → pp_b (sc_lt τ g e).toInt e (sc_lt τ g y).toInt y := by
  intro m
  induction m with
  | zero => exact ⟨fun _ y hy => absurd hy (Nat.not_lt_zero _), fun e he => absurd he (by rw [sc_ew]; omega)⟩
  | succ m ih =>
    obtain ⟨i1, i2⟩ := ih
    rw [sc_ew]
    by_cases hc : sc_ewc τ g m (sc_ew τ g m)
    · rw [if_pos hc]
      refine ⟨fun z => absurd z (by omega), fun e he => ?_⟩
      have he : m = e := by omega
      subst he
      refine ⟨by omega, ⟨hc.1, hc.2.1⟩, fun y hy hp hw hne => ?_⟩
      have hy : y < m := by omega
      have hc2 := hc.2.2
      rcases h0 : sc_ew τ g m with _ | f
      · exact absurd ⟨hp, hw⟩ (i1 h0 y hy)
      · have h9 := i2 f h0
        rw [h0, Nat.add_sub_cancel] at hc2
        have z1 : (sc_lt τ g m).toInt < (sc_lt τ g f).toInt := by
          rcases hc2 with z | z | z
          · omega
          · rw [ti_lt] at z; exact z
          · omega
        by_cases hyf : y = f
        · rw [hyf]; exact Or.inl z1
        · have h8 := h9.2.2 y hy hp hw hyf
          unfold pp_b at h8 ⊢
          omega
    · rw [if_neg hc]
      refine ⟨fun z y hy hpw => ?_, fun e he => ?_⟩
      · by_cases hym : y = m
        · rw [hym] at hpw; exact hc ⟨hpw.1, hpw.2, Or.inl z⟩
        · exact i1 z y (by omega) hpw
      · have h9 := i2 e he
        refine ⟨by omega, h9.2.1, fun y hy hp hw hne => ?_⟩
        by_cases hym : y = m
        · have h8 : ¬ sc_ie τ g m g e := fun z => hc ⟨by rw [← hym]; exact hp, by rw [← hym]; exact hw, Or.inr (by rw [he, Nat.add_sub_cancel]; exact z)⟩
          unfold sc_ie at h8
          rw [ti_lt, ti_eq] at h8
          rw [hym]
          unfold pp_b
          omega
        · exact h9.2.2 y (by omega) hp hw hne
theorem jt_w {τ μ : gs_T} (J : jj_J τ μ) {g o : Nat} (hg : g < τ.1 0 0 0) (ho : o < 40) : (¬ μ.2.1 114 (40 * g + o) 0 = 0 ∧ μ.2.1 116 (40 * g + o) 0 = 0) ↔ (τ.1 6 g o = 1 ∧ sc_wt τ g o) := by
  by_cases hp : τ.1 6 g o = 1
  · have h9 := J.1.2.2.2.2.2.1 g o hp
    rw [h9.1, h9.2.2.2.1]
    unfold sc_wt
    by_cases h8 : τ.2.1 8 g o = -1
    · rw [if_pos h8]
      exact ⟨fun z => absurd rfl z.1, fun z => absurd h8 z.2.1⟩
    · rw [if_neg h8]
      exact ⟨fun z => ⟨hp, h8, z.2⟩, fun z => ⟨by decide, z.2.2⟩⟩
  · have h9 := J.1.2.2.2.2.2.2.1 g o hg ho hp
    exact ⟨fun z => absurd h9.1 z.1, fun z => absurd z.1 hp⟩
theorem jt_tt {τ μ : gs_T} (J : jj_J τ μ) {g o : Nat} (hp : τ.1 6 g o = 1) (h8 : ¬ τ.2.1 8 g o = -1) : sm_tt μ g o = sc_lt τ g o := by
  have h9 := J.1.2.2.2.2.2.1 g o hp
  have t10 := jq_10 J hp
  unfold sm_tt sc_lt
  rw [h9.2.1, h9.2.2.1]
  have e8 : ti_tm (τ.2.1 8 g o) = τ.2.1 8 g o := by rw [ti_tm, if_neg h8]
  rw [e8]
  by_cases h10 : τ.2.1 10 g o = -1
  · rw [if_pos h10, if_pos]
    rw [ti_tm, if_pos h10]; decide
  · have e10 : ti_tm (τ.2.1 10 g o) = τ.2.1 10 g o := by rw [ti_tm, if_neg h10]
    rw [if_neg h10, e10, if_neg]
    rw [ti_le, ti_0]
    rw [jn_m1] at h10
    omega
theorem jt_tb {τ μ : gs_T} (J : jj_J τ μ) {g : Nat} (hg : g < τ.1 0 0 0) : ∀ m, m ≤ 40 → (sm_tb μ g m).1 = sc_ew τ g m ∧ ∀ e, sc_ew τ g m = e + 1 → (sm_tb μ g m).2 = sc_lt τ g e := by
  intro m
  induction m with
  | zero => intro _; exact ⟨rfl, fun e he => absurd he (by rw [sc_ew]; omega)⟩
  | succ m ih =>
    intro hm
    obtain ⟨i1, i2⟩ := ih (by omega)
    rw [sm_tb, sc_ew]
    by_cases hw : τ.1 6 g m = 1 ∧ sc_wt τ g m
    · rw [if_pos ((jt_w J hg (by omega)).mpr hw), jt_tt J hw.1 hw.2.1, i1]
      have hcc : (sc_ew τ g m = 0 ∨ sc_lt τ g m < (sm_tb μ g m).2) ↔ sc_ewc τ g m (sc_ew τ g m) := by
        rcases h0 : sc_ew τ g m with _ | f
        · exact ⟨fun _ => ⟨hw.1, hw.2, Or.inl rfl⟩, fun _ => Or.inl rfl⟩
        · have hf := ((jt_ew (τ := τ) (g := g) m).2 f h0).1
          rw [i2 f h0]
          constructor
          · intro z
            rcases z with z | z
            · omega
            · exact ⟨hw.1, hw.2, Or.inr (Or.inl z)⟩
          · intro z
            rcases z.2.2 with z | z | z
            · omega
            · exact Or.inr z
            · have := z.2; omega
      by_cases hc : sc_ewc τ g m (sc_ew τ g m)
      · rw [if_pos (hcc.mpr hc), if_pos hc]
        refine ⟨rfl, fun e he => ?_⟩
        rw [show e = m by omega]
      · rw [if_neg (fun z => hc (hcc.mp z)), if_neg hc]
        exact ⟨i1, i2⟩
    · rw [if_neg (fun z => hw ((jt_w J hg (by omega)).mp z)), if_neg (fun z => hw ⟨z.1, z.2.1⟩)]
      exact ⟨i1, i2⟩
theorem jt_40 {τ : gs_T} (W : gw_W τ) {g : Nat} : ∀ d, sc_ew τ g (τ.1 1 0 0 + d) = sc_ew τ g (τ.1 1 0 0) := by
  intro d
  induction d with
  | zero => rfl
  | succ d ih =>
    rw [show τ.1 1 0 0 + (d + 1) = (τ.1 1 0 0 + d) + 1 from rfl, sc_ew, if_neg, ih]
    intro z
    have := (gw_p W z.1).2
    omega
theorem jt_tc {τ μ : gs_T} (J : jj_J τ μ) {g : Nat} (hg : g < τ.1 0 0 0) : (sm_tb μ g (μ.1 104 0 0)).1 = sc_ew τ g 40 ∧ (sm_tc μ g ↔ (¬ sc_ew τ g 40 = 0 ∧ ¬ τ.2.1 10 g (sc_ew τ g 40 - 1) = -1)) := by
  have hn := jq_n J
  have e4 : μ.1 104 0 0 = τ.1 1 0 0 := J.1.1.2.1
  have e40 : sc_ew τ g 40 = sc_ew τ g (τ.1 1 0 0) := by
    have := jt_40 J.2.1.1 (g := g) (40 - τ.1 1 0 0)
    rw [show τ.1 1 0 0 + (40 - τ.1 1 0 0) = 40 by omega] at this
    exact this
  have h9 := (jt_tb J hg (τ.1 1 0 0) (by omega)).1
  refine ⟨by rw [e4, e40, h9], ?_⟩
  unfold sm_tc
  rw [e4, h9, ← e40]
  rcases h0 : sc_ew τ g 40 with _ | f
  · exact ⟨fun z => absurd rfl z.1, fun z => absurd rfl z.1⟩
  · have h8 := (jt_ew (τ := τ) (g := g) 40).2 f h0
    rw [Nat.add_sub_cancel, (J.1.2.2.2.2.2.1 g f h8.2.1.1).2.2.1]
    have t10 := jq_10 J h8.2.1.1
    have : ti_tm (τ.2.1 10 g f) = 0 ↔ τ.2.1 10 g f = -1 := by
      rw [ti_eq, ti_0, ti_tmi t10, jn_m1]
      split <;> omega
    rw [this]
theorem jt_lt {τ μ : gs_T} (J : jj_J τ μ) {g : Nat} (hg : g < τ.1 0 0 0) (hc : sm_tc μ g) : τ.1 3 g 0 < 40 := by
  obtain ⟨h1, h2⟩ := ((jt_tc J hg).2).mp hc
  obtain ⟨f, hf⟩ : ∃ f, sc_ew τ g 40 = f + 1 := ⟨sc_ew τ g 40 - 1, by omega⟩
  have h8 := (jt_ew (τ := τ) (g := g) 40).2 f hf
  rw [(J.2.1.2.2.2.2.1 g hg).2.2.2.2]
  exact ti_cn_lt (j := f) h8.1 (fun z => absurd (z.2.symm.trans h8.2.1.2.2) (by decide))
theorem jf_c {τ μ : gs_T} (J : jj_J τ μ) {g o : Nat} (hg : g < τ.1 0 0 0) (ho : o < 40) : sm_mfc μ g o ↔ sc_mfc τ g o := by
  unfold sm_mfc
  by_cases hp : τ.1 6 g o = 1
  · have h9 := J.1.2.2.2.2.2.1 g o hp
    have t10 := jq_10 J hp
    have : ti_tm (τ.2.1 10 g o) = 0 ↔ τ.2.1 10 g o = -1 := by
      rw [ti_eq, ti_0, ti_tmi t10, jn_m1]
      split <;> omega
    rw [h9.1, h9.2.2.1, this, (jf_eq J hp).1]
    constructor
    · intro z; exact ⟨hp, z.2.1, z.2.2⟩
    · intro z
      refine ⟨?_, z.2.1, z.2.2⟩
      rw [if_neg z.2.2.1]; decide
  · have h9 := J.1.2.2.2.2.2.2.1 g o hg ho hp
    exact ⟨fun z => absurd h9.1 z.1, fun z => absurd z.1 hp⟩
theorem jf_none {μ : gs_T} {g : Nat} : ∀ m o, (∀ y, o ≤ y → y < o + m → ¬ sm_mfc μ g y) → sm_mf μ g m o = none := by
  intro m
  induction m with
  | zero => intro o _; rfl
  | succ m ih =>
    intro o h
    rw [sm_mf, if_neg (h o (Nat.le_refl _) (by omega))]
    exact ih (o + 1) (fun y h1 h2 => h y (by omega) (by omega))
theorem jf_some {μ : gs_T} {g : Nat} : ∀ m o e, o ≤ e → e < o + m → (∀ y, o ≤ y → y < e → ¬ sm_mfc μ g y) → sm_mfc μ g e → sm_mf μ g m o = some e := by
  intro m
  induction m with
  | zero => intro o e h1 h2; omega
  | succ m ih =>
    intro o e h1 h2 h3 h4
    rw [sm_mf]
    by_cases he : o = e
    · rw [he, if_pos h4]
    · rw [if_neg (h3 o (Nat.le_refl _) (by omega))]
      exact ih (o + 1) e (by omega) (by omega) (fun y z1 z2 => h3 y (by omega) z2) h4
/-- the model's loop comes from μ to ν -/
def gq_T (g : Nat) (μ ν : gs_T) (n : Nat) : Prop := sm_ok g n μ ∧ sm_lp g n μ = ν
theorem jl_pre {τ μ : gs_T} (J : jj_J τ μ) {g : Nat} (hg : g < τ.1 0 0 0) : gv_V μ ∧ μ.1 31 0 0 = 1 ∧ g < μ.1 100 0 0 ∧ μ.1 125 0 0 + 4 ≤ 400 ∧ (sm_tc μ g → μ.1 123 g 0 < 40) := by
  have hn := jq_n J
  have hA := J.1.1
  refine ⟨hA.2.2.2.2.1, hA.2.2.2.2.2, by rw [hA.1]; exact hg, by rw [hA.2.2.1]; omega, fun hc => ?_⟩
  rw [(J.1.2.2.2.2.1 g hg).1]
  exact jt_lt J hg hc
theorem gq_step {τ μ ν : gs_T} (J : jj_J τ μ) {g n : Nat} (hg : g < τ.1 0 0 0) (hb : sm_sb μ g = true) (h : gq_T g (sm_st μ g) ν n) : gq_T g μ ν (n + 1) := by
  refine ⟨⟨jl_pre J hg, fun _ => h.1⟩, ?_⟩
  rw [sm_lp, if_pos hb]
  exact h.2
theorem gq_end {τ μ : gs_T} (J : jj_J τ μ) {g : Nat} (hg : g < τ.1 0 0 0) (hb : ¬ sm_sb μ g = true) : gq_T g μ (sm_st μ g) 1 := by
  refine ⟨⟨jl_pre J hg, fun z => absurd z hb⟩, ?_⟩
  rw [sm_lp, if_neg hb]
theorem jl_F {τ μ : gs_T} (J : jj_J τ μ) {g : Nat} (hg : g < τ.1 0 0 0) : ∀ m, m ≤ 40 → ∃ μ', jj_J (sc_mf τ g m) μ' ∧ (∀ y, y < m → ¬ sc_mfc (sc_mf τ g m) g y) ∧ (sc_mf τ g m).1 = τ.1 ∧ ∀ ν n, gq_T g μ' ν n → ∃ n', gq_T g μ ν n' := by
  intro m
  induction m with
  | zero => intro _; exact ⟨μ, J, fun y hy => absurd hy (Nat.not_lt_zero _), rfl, fun ν n h => ⟨n, h⟩⟩
  | succ m ih =>
    intro hm
    obtain ⟨μ', J', hno, h1, hq⟩ := ih (by omega)
    rw [sc_mf]
    generalize sc_mf τ g m = τ' at J' hno h1 ⊢
    have hg' : g < τ'.1 0 0 0 := by rw [h1]; exact hg
    have hn := jq_n J'
    by_cases hc : sc_mfc τ' g m
    · rw [sc_mf1, if_pos hc]
      have hm1 := (gw_p J'.2.1.1 hc.1).2
      have hst : sm_mf μ' g (μ'.1 104 0 0) 0 = some m := by
        refine jf_some _ 0 m (by omega) (by rw [J'.1.1.2.1]; omega) (fun y _ hy => ?_) ((jf_c J' hg' (by omega)).mpr hc)
        exact fun z => hno y hy ((jf_c J' hg' (by omega)).mp z)
      refine ⟨sm_mf1 μ' g m, jF_step J' hc, fun y hy z => ?_, h1, fun ν n h => ?_⟩
      · by_cases hym : y = m
        · have z2 := z.2.1
          rw [hym] at z2
          have hv : (sc_mfv τ' g m).toInt = max (τ'.2.1 8 g m).toInt (τ'.2.1 9 g m).toInt := ti_mx _ _
          have t8 := jq_8 J' hc.1
          have h8 := hc.2.2.1
          rw [jn_m1] at h8
          have e10 : (gs_i (gs_i τ' 10 g m (sc_mfv τ' g m)) 7 g 0 (gs_mx (τ'.2.1 7 g 0) (sc_mfv τ' g m))).2.1 10 g m = sc_mfv τ' g m := by
            simp (decide := true) only [gs_i, gs_u_ne, gs_u_at, and_self, if_true]
          rw [e10, jn_m1] at z2
          omega
        · refine hno y (by omega) ?_
          unfold sc_mfc sc_hal at z ⊢
          simp (decide := true) only [gs_i, gs_u_ne, gs_u_at, hym, and_false, if_false] at z
          exact z
      · refine hq ν (n + 1) (gq_step J' hg' ?_ ?_)
        · rw [sm_sb, hst]
        · rw [sm_st, hst]; exact h
    · rw [sc_mf1, if_neg hc]
      refine ⟨μ', J', fun y hy => ?_, h1, hq⟩
      by_cases hym : y = m
      · rw [hym]; exact hc
      · exact hno y (by omega)
theorem jl_nf {τ μ : gs_T} (J : jj_J τ μ) {g : Nat} (hg : g < τ.1 0 0 0) (hno : ∀ y, y < 40 → ¬ sc_mfc τ g y) : sm_mf μ g (μ.1 104 0 0) 0 = none := by
  have hn := jq_n J
  refine jf_none _ 0 (fun y _ hy => ?_)
  rw [J.1.1.2.1] at hy
  exact fun z => hno y (by omega) ((jf_c J hg (by omega)).mp z)
theorem jl_T {g : Nat} : ∀ (m : Nat) (τ μ : gs_T), jj_J τ μ → g < τ.1 0 0 0 → (∀ y, y < 40 → ¬ sc_mfc τ g y) → m + τ.1 3 g 0 = 40 → ∃ μ', jj_J (sc_ta g m (τ.1 3 g 0) τ) μ' ∧ (∀ y, y < 40 → ¬ sc_mfc (sc_ta g m (τ.1 3 g 0) τ) g y) ∧ ¬ sm_tc μ' g ∧ g < (sc_ta g m (τ.1 3 g 0) τ).1 0 0 0 ∧ ∀ ν n, gq_T g μ' ν n → ∃ n', gq_T g μ ν n' := by
  intro m
  induction m with
  | zero =>
    intro τ μ J hg hno hm
    exact ⟨μ, J, hno, fun hc => by have := jt_lt J hg hc; omega, hg, fun ν n h => ⟨n, h⟩⟩
  | succ m ih =>
    intro τ μ J hg hno hm
    have htc := jt_tc J hg
    rw [sc_ta]
    by_cases h0 : sc_ew τ g 40 = 0
    · rw [if_pos h0]
      exact ⟨μ, J, hno, fun hc => (htc.2.mp hc).1 h0, hg, fun ν n h => ⟨n, h⟩⟩
    · rw [if_neg h0]
      by_cases h1 : τ.2.1 10 g (sc_ew τ g 40 - 1) = -1
      · rw [if_pos h1]
        exact ⟨μ, J, hno, fun hc => (htc.2.mp hc).2 h1, hg, fun ν n h => ⟨n, h⟩⟩
      · rw [if_neg h1]
        have hc : sm_tc μ g := htc.2.mpr ⟨h0, h1⟩
        obtain ⟨f, hf⟩ : ∃ f, sc_ew τ g 40 = f + 1 := ⟨sc_ew τ g 40 - 1, by omega⟩
        have h8 := (jt_ew (τ := τ) (g := g) 40).2 f hf
        have htb := htc.1
        rw [hf, Nat.add_sub_cancel] at h1 ⊢
        rw [hf] at htb
        have hn := jq_n J
        rw [jn_m1] at h1
        have J' := jT_step J (g := g) (e := f) h8.2.1.1 (by have := h8.2.1.2.1; rw [jn_m1] at this; exact this) h8.2.1.2.2 h1 (fun y hy hy8 hy11 hne => h8.2.2 y (by have := (gw_p J.2.1.1 hy).2; omega) hy ⟨by rw [jn_m1]; exact hy8, hy11⟩ hne)
        have e3 : (sc_tk1 τ g (τ.1 3 g 0) f).1 3 g 0 = τ.1 3 g 0 + 1 := by
          simp (decide := true) only [sc_tk1, gs_n, gs_i, gs_u_at, and_self, if_true]
        have e0 : (sc_tk1 τ g (τ.1 3 g 0) f).1 0 0 0 = τ.1 0 0 0 := by
          simp (decide := true) only [sc_tk1, gs_n, gs_i, gs_u_ne]
        have hno' : ∀ y, y < 40 → ¬ sc_mfc (sc_tk1 τ g (τ.1 3 g 0) f) g y := fun y hy z => by
          refine hno y hy ?_
          unfold sc_mfc sc_hal at z ⊢
          simp (decide := true) only [sc_tk1, gs_n, gs_i, gs_u_ne] at z
          exact z
        have h9 := ih _ _ J' (by rw [e0]; exact hg) hno' (by rw [e3]; omega)
        rw [e3] at h9
        obtain ⟨μ', J2, hno2, hc2, hg2, hq⟩ := h9
        refine ⟨μ', J2, hno2, hc2, hg2, fun ν n h => ?_⟩
        obtain ⟨n', h'⟩ := hq ν n h
        refine ⟨n' + 1, gq_step J hg ?_ ?_⟩
        · rw [sm_sb, jl_nf J hg hno]
          show (if sm_tc μ g then true else _) = true
          rw [if_pos hc]
        · rw [sm_st, jl_nf J hg hno]
          show gq_T g (if sm_tc μ g then sm_tks μ g else sm_ws μ g) ν n'
          rw [if_pos hc, sm_tks, if_pos hc, htb, Nat.add_sub_cancel]
          exact h'
