/-! pure: what the class leaves alone, what the model leaves alone, the room -/
/-- the class's part of the state may have changed, the model's is the same -/
def gy_C (σ τ : gs_T) : Prop := ∀ t, (100 ≤ t ∨ t = 31) → τ.1 t = σ.1 t ∧ τ.2.1 t = σ.2.1 t
theorem gy_C0 {σ : gs_T} : gy_C σ σ := fun _ _ => ⟨rfl, rfl⟩
theorem gy_Cn {σ τ : gs_T} {f i j v : Nat} (hf : f < 100 ∧ f ≠ 31) (h : gy_C σ τ) : gy_C σ (gs_n τ f i j v) := fun t ht => ⟨(gs_u_ne (by omega)).trans (h t ht).1, (h t ht).2⟩
theorem gy_Ci {σ τ : gs_T} {f i j : Nat} {v : Int32} (hf : f < 100 ∧ f ≠ 31) (h : gy_C σ τ) : gy_C σ (gs_i τ f i j v) := fun t ht => ⟨(h t ht).1, (gs_u_ne (by omega)).trans (h t ht).2⟩
theorem gy_Cl {σ τ : gs_T} {o : Nat} {v : Int64} (h : gy_C σ τ) : gy_C σ (gs_l τ o v) := h
/-- the model's part of the state may have changed, the class's is the same -/
def gy_M (σ τ : gs_T) : Prop := (∀ t, t < 100 → τ.1 t = σ.1 t ∧ τ.2.1 t = σ.2.1 t) ∧ τ.2.2 = σ.2.2
theorem gy_M0 {σ : gs_T} : gy_M σ σ := ⟨fun _ _ => ⟨rfl, rfl⟩, rfl⟩
theorem gy_Mn {σ τ : gs_T} {f i j v : Nat} (hf : 100 ≤ f) (h : gy_M σ τ) : gy_M σ (gs_n τ f i j v) := ⟨fun t ht => ⟨(gs_u_ne (by omega)).trans (h.1 t ht).1, (h.1 t ht).2⟩, h.2⟩
theorem gy_Mi {σ τ : gs_T} {f i j : Nat} {v : Int32} (hf : 100 ≤ f) (h : gy_M σ τ) : gy_M σ (gs_i τ f i j v) := ⟨fun t ht => ⟨(h.1 t ht).1, (gs_u_ne (by omega)).trans (h.1 t ht).2⟩, h.2⟩
theorem yc_nw {σ τ : gs_T} {n : Nat} (h : gy_C σ τ) : gy_C σ (sc_nw τ n) := by
  unfold sc_nw
  repeat (first | exact h | refine gy_Cn (by decide) ?_ | refine gy_Ci (by decide) ?_ | refine gy_Cl ?_)
theorem yc_ad {σ τ : gs_T} {q a g o : Nat} {k f c : Int32} (h : gy_C σ τ) : gy_C σ (sc_ad τ q a k f g o c) := by
  unfold sc_ad
  repeat (first | exact h | refine gy_Cn (by decide) ?_ | refine gy_Ci (by decide) ?_ | refine gy_Cl ?_)
theorem yc_pt {σ τ : gs_T} {a g o : Nat} {k f c : Int32} (h : gy_C σ τ) : gy_C σ (sc_pt τ a k f g o c) := by
  unfold sc_pt
  split
  · exact gy_Cn (by decide) (yc_ad h)
  · exact h
theorem yc_pm {σ τ : gs_T} {g o : Nat} {k f c : Int32} (h : gy_C σ τ) : gy_C σ (sc_pm τ k f g o c) := by
  exact yc_pt (yc_nw h)
theorem yc_start {σ τ : gs_T} {g o : Nat} (h : gy_C σ τ) : gy_C σ (sc_start τ g o) := by
  unfold sc_start
  repeat (first | exact h | refine gy_Cn (by decide) ?_ | refine gy_Ci (by decide) ?_ | refine gy_Cl ?_)
theorem yc_rv {σ τ : gs_T}  (h : gy_C σ τ) : gy_C σ (sc_rv τ) := by
  unfold sc_rv
  split
  · exact gy_Ci (by decide) h
  · split
    · exact gy_Ci (by decide) (gy_Ci (by decide) h)
    · split
      · split
        · exact yc_start h
        · exact yc_pm (yc_start h)
      · exact h
theorem yc_sh {σ τ : gs_T} {e m : Nat} (h : gy_C σ τ) : gy_C σ (sc_sh τ e m) := by
  induction m generalizing τ e with
  | zero => exact h
  | succ m ih => rw [sc_sh]; exact ih (yc_ad h)
theorem yc_dr {σ τ : gs_T} {j : Nat} (h : gy_C σ τ) : gy_C σ (sc_dr τ j) := by
  exact gy_Cn (by decide) (gy_Cn (by decide) (yc_sh h))
theorem yc_mf {σ τ : gs_T} {g m : Nat} (h : gy_C σ τ) : gy_C σ (sc_mf τ g m) := by
  induction m with
  | zero => exact h
  | succ m ih =>
    rw [sc_mf, sc_mf1]
    split
    · exact gy_Ci (by decide) (gy_Ci (by decide) ih)
    · exact ih
theorem yc_tk1 {σ τ : gs_T} {g k b : Nat} (h : gy_C σ τ) : gy_C σ (sc_tk1 τ g k b) := by
  unfold sc_tk1
  repeat (first | exact h | refine gy_Cn (by decide) ?_ | refine gy_Ci (by decide) ?_ | refine gy_Cl ?_)
theorem yc_ta {σ τ : gs_T} {g m k : Nat} (h : gy_C σ τ) : gy_C σ (sc_ta g m k τ) := by
  induction m generalizing τ k with
  | zero => exact h
  | succ m ih =>
    rw [sc_ta]
    split
    · exact h
    · split
      · exact h
      · exact ih (yc_tk1 h)
theorem yc_pv {σ τ : gs_T} {g o : Nat} (h : gy_C σ τ) : gy_C σ (sc_pv τ g o) := by
  unfold sc_pv
  split
  · exact h
  · split
    · exact gy_Ci (by decide) (yc_pm h)
    · exact h
theorem yc_wo {σ τ : gs_T} {g o : Nat} (h : gy_C σ τ) : gy_C σ (sc_wo τ g o) := by
  unfold sc_wo sc_wt2
  dsimp only
  split <;> split <;> split <;> (repeat (first | exact h | refine gy_Cn (by decide) ?_ | refine gy_Ci (by decide) ?_ | refine gy_Cl ?_))
theorem yc_wa {σ τ : gs_T} {g m k : Nat} (h : gy_C σ τ) : gy_C σ (sc_wa g m k τ) := by
  induction m generalizing τ k with
  | zero => exact h
  | succ m ih =>
    rw [sc_wa]
    split
    · exact yc_pv h
    · exact ih (gy_Cn (by decide) (yc_wo (yc_pv h)))
theorem yc_hd {σ τ : gs_T} {i : Nat} (h : gy_C σ τ) : gy_C σ (sc_hd τ i) := by
  unfold sc_hd
  repeat (first | exact h | refine gy_Cn (by decide) ?_ | refine gy_Ci (by decide) ?_ | refine gy_Cl ?_)
theorem yc_d1 {σ τ : gs_T} {j : Nat} {b : Int32} (h : gy_C σ τ) : gy_C σ (sc_d1 τ j b) := by
  unfold sc_d1
  split
  · exact yc_dr h
  · exact h
theorem yc_d6 {σ τ : gs_T} {j : Nat} {b : Int32} (h : gy_C σ τ) : gy_C σ (sc_d6 τ j b) := by
  exact yc_wa (yc_ta (yc_mf (yc_rv (gy_Ci (by decide) (yc_d1 h)))))
theorem yc_del {σ τ : gs_T} {x b : Int32} (h : gy_C σ τ) : gy_C σ (sc_del τ x b) := by
  unfold sc_del
  split
  · split
    · exact h
    · exact gy_Cn (by decide) (yc_d6 (yc_hd h))
  · exact h
theorem yc_up {σ τ : gs_T} {x b : Int32} (h : gy_C σ τ) : gy_C σ (sc_up τ x b) := by
  unfold sc_up
  split
  · exact gy_Ci (by decide) h
  · exact h
theorem yc_np {σ τ : gs_T} {g q : Nat} (h : gy_C σ τ) : gy_C σ (sc_np τ g q) := by
  unfold sc_np
  repeat (first | exact h | refine gy_Cn (by decide) ?_ | refine gy_Ci (by decide) ?_ | refine gy_Cl ?_)
theorem yc_no {σ τ : gs_T} {q cl u v : Nat} {k c t : Int32} {b : Int64} (h : gy_C σ τ) : gy_C σ (sc_no τ q cl k u v c t b) := by
  unfold sc_no
  repeat (first | exact h | refine gy_Cn (by decide) ?_ | refine gy_Ci (by decide) ?_ | refine gy_Cl ?_)
theorem yc_ps2 {σ τ : gs_T} {f s q : Nat} (h : gy_C σ τ) : gy_C σ (sc_ps2 τ f s q) := by
  unfold sc_ps2
  split
  · exact yc_pm h
  · exact gy_Cn (by decide) (gy_Cn (by decide) (yc_pm (yc_np (yc_nw (yc_pm h)))))
theorem yc_ps {σ τ : gs_T} {q : Nat} (h : gy_C σ τ) : gy_C σ (sc_ps τ q) := by
  exact yc_ps2 (yc_np (yc_nw h))
theorem yc_send {σ τ : gs_T} {x k a b c : Int32} (h : gy_C σ τ) : gy_C σ (sc_send τ x k a b c) := by
  unfold sc_send
  split
  · exact yc_ps (gy_Cn (by decide) (yc_no (yc_nw h)))
  · exact h
theorem yc_fl {σ τ : gs_T} {f : Nat} {v : Int32} {m : Nat} (hf : f < 100 ∧ f ≠ 31) (h : gy_C σ τ) : gy_C σ (sc_fl f v τ m) := by
  induction m with
  | zero => exact h
  | succ m ih => rw [sc_fl]; exact gy_Ci hf ih
theorem yc_r2 {σ τ : gs_T} {q : Nat} (h : gy_C σ τ) : gy_C σ (sc_r2 τ q) := by
  unfold sc_r2
  repeat (first | exact h | refine gy_Cn (by decide) ?_ | refine gy_Ci (by decide) ?_ | refine gy_Cl ?_)
theorem yc_r3 {σ τ : gs_T} {q : Nat} (h : gy_C σ τ) : gy_C σ (sc_r3 τ q) := by
  unfold sc_r3
  split
  · exact gy_Ci (by decide) (yc_r2 h)
  · exact yc_r2 h
theorem yc_ra {σ τ : gs_T} {q : Nat} (h : gy_C σ τ) : gy_C σ (sc_ra τ q) := by
  unfold sc_ra
  split
  · exact gy_Ci (by decide) (yc_r3 h)
  · exact yc_r3 h
theorem yc_rl {σ τ : gs_T} {m e : Nat} (h : gy_C σ τ) : gy_C σ (sc_rl m e τ).2 := by
  induction m generalizing τ e with
  | zero => exact h
  | succ m ih =>
    rw [sc_rl]
    split
    · exact h
    · split
      · exact ih (yc_ra h)
      · exact yc_ra h
theorem yc_ags {σ τ : gs_T}  (h : gy_C σ τ) : gy_C σ (sc_ags τ) := by
  unfold sc_ags sc_rg
  split
  · split
    · exact yc_rl (yc_fl (by decide) (yc_fl (by decide) h))
    · exact yc_rl (yc_fl (by decide) (yc_fl (by decide) h))
  · exact h
theorem ym_put {σ τ : gs_T} {k t : Int32} {q f g : Nat} (h : gy_M σ τ) : gy_M σ (sm_put τ k q f g t) := by
  unfold sm_put
  repeat (first | exact h | refine gy_Mn (by decide) ?_ | refine gy_Mi (by decide) ?_)
theorem ym_po {σ τ : gs_T} {k t : Int32} {q f g : Nat} (h : gy_M σ τ) : gy_M σ (sm_po τ k q f t g) := by
  induction g with
  | zero => exact h
  | succ g ih =>
    rw [sm_po, sm_po1]
    split
    · exact ym_put ih
    · exact ih
theorem ym_cs {σ τ : gs_T} {g q : Nat} (h : gy_M σ τ) : gy_M σ (sm_cs τ g q) := by
  unfold sm_cs
  split
  · exact ym_po (gy_Mi (by decide) (gy_Mi (by decide) (gy_Mi (by decide) h)))
  · exact h
theorem ym_rc {σ τ : gs_T} {i q : Nat} (h : gy_M σ τ) : gy_M σ (sm_rc τ i q) := by
  unfold sm_rc
  split
  · exact ym_cs h
  · split
    · exact gy_Mi (by decide) h
    · split
      · exact gy_Mi (by decide) (gy_Mi (by decide) (gy_Mi (by decide) h))
      · exact h
theorem ym_rb {σ τ : gs_T} {i q : Nat} (h : gy_M σ τ) : gy_M σ (sm_rb τ i q) := by
  exact gy_Mi (by decide) (ym_rc h)
theorem ym_move {σ τ : gs_T} {i j : Nat} (h : gy_M σ τ) : gy_M σ (sm_move τ i j) := by
  unfold sm_move
  repeat (first | exact h | refine gy_Mn (by decide) ?_ | refine gy_Mi (by decide) ?_)
theorem ym_sh {σ τ : gs_T} {k m : Nat} (h : gy_M σ τ) : gy_M σ (sm_sh τ k m) := by
  induction m generalizing τ k with
  | zero => exact h
  | succ m ih => rw [sm_sh]; exact ih (ym_move h)
theorem ym_bs {σ τ : gs_T} {j : Nat} (h : gy_M σ τ) : gy_M σ (sm_bs τ j) := by
  exact ym_sh (gy_Mn (by decide) (ym_move h))
theorem ym_wo {σ τ : gs_T} {g q : Nat} (h : gy_M σ τ) : gy_M σ (sm_wo τ g q) := by
  unfold sm_wo sm_wt
  dsimp only
  split <;> split <;> split <;> (repeat (first | exact h | refine gy_Mn (by decide) ?_ | refine gy_Mi (by decide) ?_))
theorem ym_ws {σ τ : gs_T} {g : Nat} (h : gy_M σ τ) : gy_M σ (sm_ws τ g) := by
  unfold sm_ws
  split
  · exact h
  · split
    · exact ym_po (gy_Mi (by decide) h)
    · split
      · exact ym_wo h
      · exact h
theorem ym_tks {σ τ : gs_T} {g : Nat} (h : gy_M σ τ) : gy_M σ (sm_tks τ g) := by
  unfold sm_tks sm_tk1
  split
  · exact gy_Mn (by decide) (gy_Mn (by decide) (gy_Mi (by decide) h))
  · exact h
theorem ym_st {σ τ : gs_T} {g : Nat} (h : gy_M σ τ) : gy_M σ (sm_st τ g) := by
  unfold sm_st
  split
  · exact gy_Mi (by decide) (gy_Mi (by decide) h)
  · split
    · exact ym_tks h
    · exact ym_ws h
theorem ym_lp {σ τ : gs_T} {g n : Nat} (h : gy_M σ τ) : gy_M σ (sm_lp g n τ) := by
  induction n generalizing τ with
  | zero => exact h
  | succ n ih =>
    rw [sm_lp]
    split
    · exact ih (ym_st h)
    · exact ym_st h
theorem ym_bring {σ τ : gs_T} {x : Int32} {q n : Nat} (h : gy_M σ τ) : gy_M σ (sm_bring τ x q n) := by
  unfold sm_bring
  split
  · exact ym_lp (ym_rb (ym_bs h))
  · exact h
theorem ym_twice {σ τ : gs_T} {x : Int32} {q n : Nat} (h : gy_M σ τ) : gy_M σ (sm_twice τ x q n) := by
  unfold sm_twice
  split
  · exact ym_lp (ym_rb h)
  · exact h
theorem ym_up {σ τ : gs_T} {x b : Int32} (h : gy_M σ τ) : gy_M σ (sm_up τ x b) := by
  unfold sm_up
  split
  · exact gy_Mi (by decide) h
  · exact h
theorem ym_send {σ τ : gs_T} {x k a b c : Int32} (h : gy_M σ τ) : gy_M σ (sm_send τ x k a b c) := by
  unfold sm_send sm_sw
  split
  · refine ym_po ?_
    repeat (first | exact h | refine gy_Mn (by decide) ?_ | refine gy_Mi (by decide) ?_)
  · exact h
theorem gv_C {μ μ' : gs_T} (h : gy_C μ μ') (V : gv_V μ) : gv_V μ' := by
  have e := (h 100 (by omega)).1
  refine ⟨by rw [e]; exact V.1, fun f i j => ?_⟩
  by_cases hf : 100 ≤ f
  · rw [e, (h f (Or.inl hf)).1]; exact V.2 f i j
  · unfold gv_b
    split <;> first | omega | trivial
theorem jJ_mu {τ μ μ' : gs_T} (h : gy_C μ μ') (J : jj_J τ μ) : jj_J τ μ' := by
  obtain ⟨⟨kA, kO, kG, kV, kT, kP, kZ, kM⟩, J2⟩ := J
  refine ⟨⟨⟨by rw [(h 100 (by omega)).1]; exact kA.1, by rw [(h 104 (by omega)).1]; exact kA.2.1, by rw [(h 125 (by omega)).1]; exact kA.2.2.1, by rw [(h 133 (by omega)).2]; exact kA.2.2.2.1, gv_C h kA.2.2.2.2.1, by rw [(h 31 (by omega)).1]; exact kA.2.2.2.2.2⟩, ?_, ?_, ?_, ?_, ?_, ?_, ?_⟩, J2⟩
  · exact jj_O_fr rfl rfl rfl rfl rfl rfl rfl rfl rfl (h 105 (by omega)).1 (h 107 (by omega)).1 (h 108 (by omega)).1 (h 106 (by omega)).2 (h 109 (by omega)).2 (h 110 (by omega)).2 (h 111 (by omega)).2 (h 112 (by omega)).2 kO
  · exact jj_G_fr rfl rfl rfl (h 101 (by omega)).2 (h 102 (by omega)).2 kG
  · exact jj_V_fr rfl rfl (h 103 (by omega)).2 (h 113 (by omega)).2 kV
  · exact jj_T_fr rfl rfl rfl (h 123 (by omega)).1 (h 124 (by omega)).1 kT
  · exact jj_P_fr rfl rfl rfl rfl rfl rfl rfl rfl rfl rfl rfl rfl (h 114 (by omega)).2 (h 115 (by omega)).2 (h 116 (by omega)).2 (h 117 (by omega)).2 (h 118 (by omega)).2 (h 119 (by omega)).2 (h 120 (by omega)).2 (h 121 (by omega)).2 (h 122 (by omega)).2 kP
  · exact jj_Z_fr rfl rfl (h 114 (by omega)).2 (h 115 (by omega)).2 (h 116 (by omega)).2 (h 117 (by omega)).2 (h 118 (by omega)).2 (h 119 (by omega)).2 (h 120 (by omega)).2 kZ
  · exact jj_M_fr rfl rfl rfl rfl rfl rfl rfl rfl rfl (h 127 (by omega)).1 (h 128 (by omega)).1 (h 129 (by omega)).1 (h 126 (by omega)).2 (h 130 (by omega)).2 (h 131 (by omega)).2 (h 132 (by omega)).2 kM
theorem gw_M {τ τ' : gs_T} (h : gy_M τ τ') (W : gw_W τ) : gw_W τ' := by
  unfold gw_W at W ⊢
  rw [(h.1 0 (by omega)).1, (h.1 1 (by omega)).1, (h.1 2 (by omega)).1, (h.1 3 (by omega)).1, (h.1 4 (by omega)).1, (h.1 5 (by omega)).1, (h.1 6 (by omega)).1, (h.1 7 (by omega)).1, (h.1 8 (by omega)).1, (h.1 9 (by omega)).1, (h.1 10 (by omega)).1, (h.1 11 (by omega)).1, (h.1 12 (by omega)).1, (h.1 13 (by omega)).1, (h.1 14 (by omega)).1, (h.1 15 (by omega)).1]
  exact W
theorem jJ_tau {τ τ' μ : gs_T} (h : gy_M τ τ') (J : jj_J τ μ) : jj_J τ' μ := by
  obtain ⟨⟨kA, kO, kG, kV, kT, kP, kZ, kM⟩, ⟨W, S, T, L, R, Wk, A, F⟩, V, G⟩ := J
  refine ⟨⟨⟨by rw [(h.1 0 (by omega)).1]; exact kA.1, by rw [(h.1 1 (by omega)).1]; exact kA.2.1, by rw [(h.1 2 (by omega)).1]; exact kA.2.2.1, by rw [(h.1 5 (by omega)).2]; exact kA.2.2.2.1, kA.2.2.2.2⟩, ?_, ?_, ?_, ?_, ?_, ?_, ?_⟩, ⟨gw_M h W, ?_, ?_, ?_, ?_, ?_, ?_, ?_⟩, V, ?_⟩
  · exact jj_O_fr (h.1 1 (by omega)).1 (h.1 12 (by omega)).1 (h.1 13 (by omega)).1 (h.1 14 (by omega)).1 (h.1 0 (by omega)).2 (h.1 1 (by omega)).2 (h.1 2 (by omega)).2 (h.1 3 (by omega)).2 (h.1 4 (by omega)).2 rfl rfl rfl rfl rfl rfl rfl rfl kO
  · exact jj_G_fr (h.1 0 (by omega)).1 (h.1 6 (by omega)).2 (h.1 7 (by omega)).2 rfl rfl kG
  · exact jj_V_fr (h.1 19 (by omega)).2 (h.1 20 (by omega)).2 rfl rfl kV
  · exact jj_T_fr (h.1 0 (by omega)).1 (h.1 3 (by omega)).1 (h.1 5 (by omega)).1 rfl rfl kT
  · exact jj_P_fr (h.1 0 (by omega)).1 (h.1 6 (by omega)).1 (h.1 7 (by omega)).1 (h.1 13 (by omega)).1 (h.1 8 (by omega)).2 (h.1 9 (by omega)).2 (h.1 10 (by omega)).2 (h.1 11 (by omega)).2 (h.1 12 (by omega)).2 (h.1 13 (by omega)).2 (h.1 14 (by omega)).2 (h.1 15 (by omega)).2 rfl rfl rfl rfl rfl rfl rfl rfl rfl kP
  · exact jj_Z_fr (h.1 0 (by omega)).1 (h.1 6 (by omega)).1 rfl rfl rfl rfl rfl rfl rfl kZ
  · exact jj_M_fr (h.1 0 (by omega)).1 (h.1 2 (by omega)).1 (h.1 7 (by omega)).1 (h.1 8 (by omega)).1 (h.1 9 (by omega)).1 (h.1 13 (by omega)).1 (h.1 16 (by omega)).2 (h.1 17 (by omega)).2 (h.1 18 (by omega)).2 rfl rfl rfl rfl rfl rfl rfl kM
  · exact pp_S_fr (h.1 0 (by omega)).1 (h.1 1 (by omega)).1 (h.1 6 (by omega)).1 (h.1 7 (by omega)).1 (h.1 13 (by omega)).1 (h.1 14 (by omega)).1 (h.1 0 (by omega)).2 S
  · exact pp_T_fr (h.1 1 (by omega)).1 (h.1 6 (by omega)).1 (h.1 7 (by omega)).1 (h.1 2 (by omega)).2 (h.1 5 (by omega)).2 (h.1 7 (by omega)).2 (h.1 8 (by omega)).2 (h.1 9 (by omega)).2 (h.1 10 (by omega)).2 (h.1 20 (by omega)).2 T
  · exact pp_L_fr (h.1 2 (by omega)).1 (h.1 7 (by omega)).1 (h.1 8 (by omega)).1 (h.1 9 (by omega)).1 (h.1 8 (by omega)).2 (h.1 16 (by omega)).2 (h.1 18 (by omega)).2 L
  · exact pp_R_fr (h.1 0 (by omega)).1 (h.1 3 (by omega)).1 (h.1 5 (by omega)).1 (h.1 6 (by omega)).1 (h.1 8 (by omega)).2 (h.1 10 (by omega)).2 (h.1 11 (by omega)).2 R
  · exact pp_W_fr (h.1 0 (by omega)).1 (h.1 3 (by omega)).1 (h.1 4 (by omega)).1 (h.1 5 (by omega)).1 (h.1 6 (by omega)).1 (h.1 11 (by omega)).2 (h.1 12 (by omega)).2 (h.1 15 (by omega)).2 Wk
  · exact pp_A_fr (h.1 1 (by omega)).1 (h.1 3 (by omega)).1 (h.1 4 (by omega)).1 (h.1 5 (by omega)).1 (h.1 6 (by omega)).1 (h.1 12 (by omega)).1 (h.1 2 (by omega)).2 (h.1 3 (by omega)).2 (h.1 10 (by omega)).2 (h.1 15 (by omega)).2 (h.1 20 (by omega)).2 h.2 A
  · exact pp_F_fr (h.1 1 (by omega)).1 (h.1 2 (by omega)).1 (h.1 6 (by omega)).1 (h.1 8 (by omega)).2 (h.1 12 (by omega)).2 F
  · exact pp_G_fr (h.1 0 (by omega)).1 (h.1 1 (by omega)).1 (h.1 2 (by omega)).1 (h.1 3 (by omega)).1 (h.1 4 (by omega)).1 (h.1 5 (by omega)).1 (h.1 6 (by omega)).1 (h.1 7 (by omega)).1 (h.1 8 (by omega)).1 (h.1 9 (by omega)).1 (h.1 13 (by omega)).1 (h.1 14 (by omega)).1 (h.1 0 (by omega)).2 (h.1 1 (by omega)).2 (h.1 3 (by omega)).2 (h.1 4 (by omega)).2 (h.1 12 (by omega)).2 (h.1 13 (by omega)).2 (h.1 14 (by omega)).2 (h.1 16 (by omega)).2 (h.1 18 (by omega)).2 (h.1 19 (by omega)).2 G
/-- the room taken -/
def gy_R (σ τ : gs_T) (a s : Nat) : Prop := τ.1 20 0 0 ≤ σ.1 20 0 0 + a ∧ τ.1 21 0 0 ≤ σ.1 21 0 0 + s
theorem gr_of {σ τ : gs_T} (h1 : τ.1 20 = σ.1 20) (h2 : τ.1 21 = σ.1 21) : gy_R σ τ 0 0 := ⟨by rw [h1]; omega, by rw [h2]; omega⟩
theorem gr_tr {σ τ υ : gs_T} {a s b t : Nat} (h : gy_R σ τ a s) (h' : gy_R τ υ b t) : gy_R σ υ (a + b) (s + t) := ⟨by have := h.1; have := h'.1; omega, by have := h.2; have := h'.2; omega⟩
theorem gr_le {σ τ : gs_T} {a s b t : Nat} (h : gy_R σ τ a s) (h1 : a ≤ b) (h2 : s ≤ t) : gy_R σ τ b t := ⟨by have := h.1; omega, by have := h.2; omega⟩
theorem gr_nw {σ : gs_T} {n : Nat} : gy_R σ (sc_nw σ n) 1 n := by
  unfold sc_nw
  refine ⟨?_, ?_⟩ <;> simp (decide := true) only [gs_n, gs_u_ne, gs_u_at, and_self, if_true] <;> omega
theorem gr_pm {σ : gs_T} {k f : Int32} {g o : Nat} {c : Int32} : gy_R σ (sc_pm σ k f g o c) 1 4 := by
  unfold sc_pm sc_pt
  split
  · refine gr_tr (gr_nw (n := 4)) (gr_of ?_ ?_) <;> simp (decide := true) only [sc_ad, gs_i, gs_n, gs_u_ne]
  · exact gr_nw
theorem gr_pv {σ : gs_T} {g o : Nat} : gy_R σ (sc_pv σ g o) 1 4 := by
  unfold sc_pv
  split
  · exact gr_le (gr_of rfl rfl) (by omega) (by omega)
  · split
    · exact gr_tr (gr_pm (k := 2) (f := nI g) (g := σ.1 7 g o - 1) (o := o) (c := σ.2.1 19 (sc_ky σ g o) 0)) (gr_of rfl rfl)
    · exact gr_le (gr_of rfl rfl) (by omega) (by omega)
theorem gr_wa {g m k : Nat} {σ : gs_T} : gy_R σ (sc_wa g m k σ) m (4 * m) := by
  induction m generalizing σ k with
  | zero => exact gr_of rfl rfl
  | succ m ih =>
    rw [sc_wa]
    split
    · exact gr_le gr_pv (by omega) (by omega)
    · refine gr_le (gr_tr (gr_tr (gr_pv (g := g) (o := σ.1 5 g k - 1)) (gr_of (τ := gs_n (sc_wo (sc_pv σ g (σ.1 5 g k - 1)) g (σ.1 5 g k - 1)) 4 g 0 (k + 1)) ?_ ?_)) ih) (by omega) (by omega) <;> simp (decide := true) only [gs_n, gs_u_ne, wo_N]
theorem gr_rv {σ : gs_T} : gy_R σ (sc_rv σ) 1 4 := by
  unfold sc_rv
  split
  · exact gr_le (gr_of rfl rfl) (by omega) (by omega)
  · split
    · exact gr_le (gr_of rfl rfl) (by omega) (by omega)
    · split
      · split
        · exact gr_le (gr_of rfl rfl) (by omega) (by omega)
        · exact gr_tr (a := 0) (s := 0) (gr_of (τ := sc_start σ (σ.1 16 0 0) (σ.1 17 0 0)) rfl rfl) gr_pm
      · exact gr_le (gr_of rfl rfl) (by omega) (by omega)
theorem gr_d6 {σ : gs_T} {j : Nat} {b : Int32} (hw : ∀ g, (sc_d5 σ j b).1 3 g 0 ≤ 40) : gy_R σ (sc_d6 σ j b) 41 164 := by
  have h1 : gy_R σ (sc_d2 σ j b) 0 0 := by
    refine gr_of ?_ ?_
    · show (sc_d1 σ j b).1 20 = _
      unfold sc_d1
      split
      · unfold sc_dr; simp (decide := true) only [gs_n, gs_u_ne, sc_sh_f]
      · rfl
    · show (sc_d1 σ j b).1 21 = _
      unfold sc_d1
      split
      · unfold sc_dr; simp (decide := true) only [gs_n, gs_u_ne, sc_sh_f]
      · rfl
  have h2 : gy_R (sc_d2 σ j b) (sc_rv (sc_d2 σ j b)) 1 4 := gr_rv
  have h3 : gy_R (sc_rv (sc_d2 σ j b)) (sc_d4 σ j b) 0 0 := gr_of (by rw [sc_d4, sc_mf_1]) (by rw [sc_d4, sc_mf_1])
  have h4 : gy_R (sc_d4 σ j b) (sc_d5 σ j b) 0 0 := by
    rw [sc_d5]
    generalize sc_d4 σ j b = τ
    exact gr_of (sc_ta_f (by decide) (by decide)) (sc_ta_f (by decide) (by decide))
  have h5 : gy_R (sc_d5 σ j b) (sc_d6 σ j b) ((sc_d5 σ j b).1 3 (σ.1 16 0 0) 0 - (sc_d5 σ j b).1 4 (σ.1 16 0 0) 0) (4 * ((sc_d5 σ j b).1 3 (σ.1 16 0 0) 0 - (sc_d5 σ j b).1 4 (σ.1 16 0 0) 0)) := by rw [sc_d6]; exact gr_wa
  have h6 := hw (σ.1 16 0 0)
  exact gr_le (gr_tr (gr_tr (gr_tr (gr_tr h1 h2) h3) h4) h5) (by omega) (by omega)
