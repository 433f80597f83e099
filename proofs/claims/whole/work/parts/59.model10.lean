/-! the reference: bring, twice -/
def sm_sh (σ : gs_T) (k m : Nat) : gs_T := match m with
  | 0 => σ
  | m + 1 => sm_sh (sm_move σ (k + 1) k) (k + 1) m
theorem gv_move {σ : gs_T} {i j : Nat} (V : gv_V σ) : gv_V (sm_move σ i j) :=
  gv_i (gv_i (gv_i (gv_n (gv_n (gv_n (gv_i V) (by decide) (V.2 127 i 0)) (by decide) (V.2 128 i 0)) (by decide) (V.2 129 i 0))))
theorem gv_sh {σ : gs_T} {k m : Nat} (V : gv_V σ) : gv_V (sm_sh σ k m) ∧ (sm_sh σ k m).1 100 0 0 = σ.1 100 0 0 ∧ (sm_sh σ k m).1 31 0 0 = σ.1 31 0 0 ∧ (sm_sh σ k m).1 125 0 0 = σ.1 125 0 0 := by
  induction m generalizing σ k with
  | zero => exact ⟨V, rfl, rfl, rfl⟩
  | succ m ih => exact ih (gv_move V)
set_option maxHeartbeats 4000000 in
theorem cl_br {S : gx_S} {h0 : gx_H} {A : gs_A} (w1 : Option Value) (g1 : gx_ok [none, w1] 2 = true) {Q : Option Value → gx_H → Prop} : ∀ (m k : Nat) (τ : gs_T) (h : gx_H), k + m = τ.1 125 0 0 → gv_V τ → τ.1 31 0 0 = 1 → τ.1 125 0 0 < 399 → gs_R h τ A → gs_sm h0 h → (∀ h, gs_R h (sm_sh τ k m) A → gs_sm h0 h → gx_Ev S gm_X6_bring 6 69 [some (.ref (A 6 0 0)), w1, some (.int (nI (k + m)))] [] h Q) → gx_Ev S gm_X6_bring 6 47 [some (.ref (A 6 0 0)), w1, some (.int (nI k))] [] h Q := by
  intro m
  induction m with
  | zero =>
    intro k τ h hk V hm hF R hs K
    refine gx_iload_n dX6_bring_47 rfl ?_
    refine gx_aload_n dX6_bring_48 rfl ?_
    refine gx_get dX6_bring_49 gf_X6_109 (gs_g6 R hm) (v := .int (nI (τ.1 125 0 0))) (rfl) ?_
    refine gx_icmp_ge dX6_bring_52 (tgt := 69) (by decide) (fun hc1 => ?_) (fun hc1 => absurd hc1 (fun z => z (by rw [← hk]; exact nI_le (Nat.le_refl _) (by omega))))
    exact K _ R hs
  | succ m ih =>
    intro k τ h hk V hm hF R hs K
    refine gx_iload_n dX6_bring_47 rfl ?_
    refine gx_aload_n dX6_bring_48 rfl ?_
    refine gx_get dX6_bring_49 gf_X6_109 (gs_g6 R hm) (v := .int (nI (τ.1 125 0 0))) (rfl) ?_
    refine gx_icmp_ge dX6_bring_52 (tgt := 69) (by decide) (fun hc1 => absurd hc1 (nI_ge (by omega) (by omega))) (fun hc1 => ?_)
    refine gx_aload_n dX6_bring_55 rfl ?_
    refine gx_iload_n dX6_bring_56 rfl ?_
    refine gx_iconst dX6_bring_57 (v := 1) (by decide) ?_
    refine gx_iadd dX6_bring_58 ?_
    rw [show ((nI k) + 1 : Int32) = nI (k + 1) from nI_1 _]
    refine gx_iload_n dX6_bring_59 rfl ?_
    refine gx_invV dX6_bring_60 wm_X6_155 gt_X6_move wy_X6_move wl_X6_move (ci := 6) rfl rfl (gs_g6 R hm) (As := [.int (nI (k + 1)), .int (nI k)]) (rest := []) rfl rfl (Nat.le_of_ble_eq_true rfl) (by decide) (cc_X6_move R hm V (i := k + 1) (j := k) (by omega) (by omega)) (fun r1 h q1 => ?_)
    obtain ⟨R, hs0, rfl⟩ := q1
    show gx_Ev _ _ _ _ _ [] _ _
    refine gx_iinc dX6_bring_63 rfl (v := nI (k + 1)) (nI_1 _) (by decide) g1 (L' := [some (.ref (A 6 0 0)), w1, some (.int (nI (k + 1)))]) rfl ?_
    refine gx_goto dX6_bring_66 (tgt := 47) (by decide) ?_
    refine ih (k + 1) (sm_move τ (k + 1) k) _ (show k + 1 + m = τ.1 125 0 0 by omega) (gv_move V) hm hF R (hs.trans hs0) (fun h8 R8 s8 => ?_)
    have k8 := K h8 R8 s8
    rw [show k + (m + 1) = k + 1 + m by omega] at k8
    exact k8
theorem sm_st_no {σ : gs_T} {g : Nat} (h : ¬ sm_sb σ g = true) : sm_st σ g = σ := by
  rw [sm_sb] at h
  rw [sm_st]
  split at h
  · exact absurd rfl h
  · rename_i hmf
    try rw [hmf]
    split at h
    · exact absurd rfl h
    · rename_i htk
      split at h
      · rename_i hwr
        show (if sm_tc σ g then sm_tks σ g else sm_ws σ g) = σ
        rw [if_neg htk, sm_ws]
        rw [sm_wr] at hwr
        split
        · rfl
        · rename_i h1
          rw [if_neg h1] at hwr
          split
          · rename_i h2
            rw [if_pos h2] at hwr
            exact absurd hwr (by decide)
          · rename_i h2
            rw [if_neg h2] at hwr
            split
            · rename_i h3
              rw [if_pos h3] at hwr
              exact absurd hwr (by decide)
            · rfl
      · exact absurd rfl h
theorem sm_lp_ok {g n : Nat} {σ : gs_T} (h : sm_ok g n σ) : gv_V (sm_lp g n σ) ∧ (sm_lp g n σ).1 31 0 0 = 1 ∧ (sm_lp g n σ).1 125 0 0 + 4 ≤ 400 := by
  induction n generalizing σ with
  | zero => exact h.elim
  | succ n ih =>
    rw [sm_lp]
    split
    · rename_i hb
      exact ih (h.2 hb)
    · rename_i hb
      rw [sm_st_no hb]
      exact ⟨h.1.1, h.1.2.1, h.1.2.2.2.1⟩
abbrev sv_in (x : Int32) (n : Nat) : Prop := 0 ≤ x ∧ x < nI n
abbrev sm_bc (σ : gs_T) (x : Int32) : Prop := sv_in x (σ.1 125 0 0) ∧ σ.2.1 102 (σ.1 129 x.toNatClampNeg 0) 0 = 0
def sm_bs (σ : gs_T) (j : Nat) : gs_T := sm_sh (gs_n (sm_move σ j 399) 125 0 0 (σ.1 125 0 0 - 1)) j (σ.1 125 0 0 - 1 - j)
theorem gv_bs {σ : gs_T} {j : Nat} (V : gv_V σ) : gv_V (sm_bs σ j) ∧ (sm_bs σ j).1 100 0 0 = σ.1 100 0 0 ∧ (sm_bs σ j).1 31 0 0 = σ.1 31 0 0 ∧ (sm_bs σ j).1 125 0 0 = σ.1 125 0 0 - 1 := gv_sh (gv_n (gv_move V) (by decide) trivial)
def sm_bring (σ : gs_T) (x : Int32) (q n : Nat) : gs_T := if sm_bc σ x then sm_lp ((sm_bs σ x.toNatClampNeg).1 129 399 0) n (sm_rb (sm_bs σ x.toNatClampNeg) 399 q) else σ
def sm_bringr (σ : gs_T) (x : Int32) (q n : Nat) : Int32 := if sm_bc σ x then nI ((sm_bring σ x q n).1 125 0 0) else -1
/-- what comes needs of the message in place i -/
def sm_pre (σ : gs_T) (i q n : Nat) : Prop := (¬ σ.2.1 126 i 0 = 0 → σ.1 128 i 0 = q + 1) ∧ σ.1 125 0 0 + 4 ≤ 400 ∧ (sm_rc σ i q).1 31 0 0 = 1 ∧ sm_ok (σ.1 129 i 0) n (sm_rb σ i q)
def sm_twice (σ : gs_T) (x : Int32) (q n : Nat) : gs_T := if sm_bc σ x then sm_lp (σ.1 129 x.toNatClampNeg 0) n (sm_rb σ x.toNatClampNeg q) else σ
def sm_twicer (σ : gs_T) (x : Int32) (q n : Nat) : Int32 := if sm_bc σ x then nI ((sm_twice σ x q n).1 125 0 0) else -1
theorem cc_X6_moveE {S : gx_S} {h : gx_H} {σ : gs_T} {A : gs_A} (R : gs_R h σ A) (hm : σ.1 31 0 0 = 1) (V : gv_V σ) {x y : Int32} {i j : Nat} (hx : x = nI i) (hy : y = nI j) (hi : i < 400) (hj : j < 400) : gx_Cn S gm_X6_move 1 [.ref (A 6 0 0), .int x, .int y] h (fun r h' => gs_R h' (sm_move σ i j) A ∧ gs_sm h h' ∧ r = none) := by
  subst hx; subst hy; exact cc_X6_move R hm V hi hj
theorem cc_X6_comesE {S : gx_S} {h : gx_H} {σ : gs_T} {A : gs_A} (R : gs_R h σ A) (hm : σ.1 31 0 0 = 1) (V : gv_V σ) {x : Int32} {i q n : Nat} (hx : x = nI i) (hi : i < 400) (hq : q < 4) (hfr : ¬ σ.2.1 126 i 0 = 0 → σ.1 128 i 0 = q + 1) (hF : σ.1 125 0 0 + 4 ≤ 400) (hmr : (sm_rc σ i q).1 31 0 0 = 1) (hok : sm_ok (σ.1 129 i 0) n (sm_rb σ i q)) : gx_Cn S gm_X6_comes 5 [.ref (A 6 0 0), .int x] h (fun r h' => gs_R h' (sm_lp (σ.1 129 i 0) n (sm_rb σ i q)) A ∧ gs_sm h h' ∧ r = none) := by
  subst hx; exact cc_X6_comes R hm V hi hq hfr hF hmr hok
set_option maxHeartbeats 4000000 in
theorem cc_X6_bring {S : gx_S} {h : gx_H} {σ : gs_T} {A : gs_A} (R : gs_R h σ A) (hm : σ.1 31 0 0 = 1) (V : gv_V σ) (x : Int32) {q n : Nat} (hq : q < 4) (hF0 : σ.1 125 0 0 < 400) (hpre : sm_bc σ x → sm_pre (sm_bs σ x.toNatClampNeg) 399 q n) : gx_Cn S gm_X6_bring 6 [.ref (A 6 0 0), .int x] h (fun r h' => gs_R h' (sm_bring σ x q n) A ∧ gs_sm h h' ∧ r = some (.int (sm_bringr σ x q n))) := by
  refine gx_Cn.of gt_X6_bring (by simp [Value.category]) (Nat.le_of_ble_eq_true rfl) ?_
  show gx_Ev S gm_X6_bring 6 0 [some (.ref (A 6 0 0)), some (.int x), none] [] h _
  refine gx_iload_n dX6_bring_0 rfl ?_
  refine gx_aload_n dX6_bring_1 rfl ?_
  refine gx_get dX6_bring_2 gf_X6_109 (gs_g6 R hm) (v := .int (nI (σ.1 125 0 0))) (rfl) ?_
  refine gx_invS dX6_bring_5 wm_X6_120 gt_X6_isIn ws_X6_isIn (As := [.int x, .int (nI (σ.1 125 0 0))]) (rest := []) rfl rfl (Nat.le_of_ble_eq_true rfl) (by decide) (cc_X6_isIn x (nI (σ.1 125 0 0))) (fun r1 h q1 => ?_)
  obtain ⟨rfl, rfl⟩ := q1
  show gx_Ev _ _ _ _ _ [.int (gs_bi (0 ≤ x ∧ x < (nI (σ.1 125 0 0))))] _ _
  refine gx_if_eq dX6_bring_8 (tgt := 25) (by decide) (fun hc1 => ?_) (fun hc1 => ?_)
  · have hc1 := gs_b0 hc1
    refine gx_iconst dX6_bring_25 (v := (-1)) (by decide) ?_
    refine gx_ireturn dX6_bring_26 ?_
    have hno : ¬ sm_bc σ x := fun z => hc1 z.1
    exact ⟨⟨_, rfl, rfl⟩, by rw [sm_bring, if_neg hno]; exact R, gs_sm.rfl, by rw [sm_bringr, if_neg hno]⟩
  · have hc1 := gs_b1 hc1
    refine gx_aload_n dX6_bring_11 rfl ?_
    refine gx_get dX6_bring_12 gf_X6_13 (gs_g6 R hm) (v := .ref (A 22 0 0)) (rfl) ?_
    refine gx_aload_n dX6_bring_15 rfl ?_
    refine gx_get dX6_bring_16 gf_X6_89 (gs_g6 R hm) (v := .ref (A 49 0 0)) (rfl) ?_
    refine gx_iload_n dX6_bring_19 rfl ?_
    refine gq_49 dX6_bring_20 R hm (q := x.toNatClampNeg) ((gs_ixl (N := σ.1 125 0 0) rfl hc1 (by omega)).1) (by have := (gs_ixl (N := σ.1 125 0 0) rfl hc1 (by omega)).2; omega) (v := nI (σ.1 129 x.toNatClampNeg 0)) (rfl) ?_
    refine gq_22 dX6_bring_21 R hm (q := σ.1 129 x.toNatClampNeg 0) (rfl) (Nat.lt_of_lt_of_le (gv_to V _) (gv_n4 V)) (v := σ.2.1 102 (σ.1 129 x.toNatClampNeg 0) 0) (rfl) ?_
    refine gx_if_eq dX6_bring_22 (tgt := 27) (by decide) (fun hc2 => ?_) (fun hc2 => ?_)
    · refine gx_aload_n dX6_bring_27 rfl ?_
      refine gx_iload_n dX6_bring_28 rfl ?_
      refine gx_sipush dX6_bring_29 (v := 399) (by decide) ?_
      refine gx_invV dX6_bring_32 wm_X6_155 gt_X6_move wy_X6_move wl_X6_move (ci := 6) rfl rfl (gs_g6 R hm) (As := [.int x, .int 399]) (rest := []) rfl rfl (Nat.le_of_ble_eq_true rfl) (by decide) (cc_X6_moveE R hm V (i := x.toNatClampNeg) (j := 399) ((gs_ixl (N := σ.1 125 0 0) rfl hc1 (by omega)).1) (by decide) (by have := (gs_ixl (N := σ.1 125 0 0) rfl hc1 (by omega)).2; omega) (by decide)) (fun r1 h q1 => ?_)
      obtain ⟨R, hs0, rfl⟩ := q1
      show gx_Ev _ _ _ _ _ [] _ _
      refine gx_aload_n dX6_bring_35 rfl ?_
      refine gx_dup dX6_bring_36 rfl ?_
      refine gx_get dX6_bring_37 gf_X6_109 (gs_g6 R hm) (v := .int (nI ((sm_move σ x.toNatClampNeg 399).1 125 0 0))) (rfl) ?_
      refine gx_iconst dX6_bring_40 (v := 1) (by decide) ?_
      refine gx_isub dX6_bring_41 ?_
      refine gp_N125 (σ := (sm_move σ x.toNatClampNeg 399)) hm dX6_bring_42 gf_X6_109 R (show nI _ - nI 1 = nI _ from pk_sub (a := σ.1 125 0 0) (b := 1) (by have := (gs_ixl (N := σ.1 125 0 0) rfl hc1 (by omega)).2; omega)) (v := σ.1 125 0 0 - 1) (fun h R hs1 => ?_)
      refine gx_iload_n dX6_bring_45 rfl ?_
      refine gx_istore_n dX6_bring_46 (by decide) rfl (L' := [some (.ref (A 6 0 0)), some (.int x), some (.int x)]) rfl ?_
      have hj := (gs_ixl (N := σ.1 125 0 0) rfl hc1 (by omega))
      have hP := hpre ⟨hc1, hc2⟩
      have VB := gv_bs (j := x.toNatClampNeg) V
      have hxe : x = nI x.toNatClampNeg := hj.1
      suffices hgo : gx_Ev S gm_X6_bring 6 47 [some (.ref (A 6 0 0)), some (.int x), some (.int (nI x.toNatClampNeg))] [] _ _ by rw [← hxe] at hgo; exact hgo
      refine cl_br _ rfl (σ.1 125 0 0 - 1 - x.toNatClampNeg) x.toNatClampNeg _ _ (by show x.toNatClampNeg + (σ.1 125 0 0 - 1 - x.toNatClampNeg) = σ.1 125 0 0 - 1; omega) (gv_n (f := 125) (i := 0) (j := 0) (v := σ.1 125 0 0 - 1) (gv_move V) (by decide) trivial) hm (by show σ.1 125 0 0 - 1 < 399; omega) R ((gs_sm.rfl.trans hs0).trans hs1) (fun h R hs9 => ?_)
      have R : gs_R h (sm_bs σ x.toNatClampNeg) A := R
      refine gx_aload_n dX6_bring_69 rfl ?_
      refine gx_sipush dX6_bring_70 (v := 399) (by decide) ?_
      refine gx_invV dX6_bring_73 wm_X6_158 gt_X6_comes wy_X6_comes wl_X6_comes (ci := 6) rfl rfl (gs_g6 R (VB.2.2.1.trans hm)) (As := [.int 399]) (rest := []) rfl rfl (Nat.le_of_ble_eq_true rfl) (by decide) (cc_X6_comesE R (VB.2.2.1.trans hm) VB.1 (i := 399) (q := q) (n := n) (by decide) (by decide) hq hP.1 hP.2.1 hP.2.2.1 hP.2.2.2) (fun r1 h q1 => ?_)
      obtain ⟨R, hs20, rfl⟩ := q1
      show gx_Ev _ _ _ _ _ [] _ _
      refine gx_aload_n dX6_bring_76 rfl ?_
      refine gx_get dX6_bring_77 gf_X6_109 (gs_g6 R (sm_lp_ok hP.2.2.2).2.1) (v := .int (nI ((sm_lp ((sm_bs σ x.toNatClampNeg).1 129 399 0) n (sm_rb (sm_bs σ x.toNatClampNeg) 399 q)).1 125 0 0))) (rfl) ?_
      refine gx_ireturn dX6_bring_80 ?_
      have hyes : sm_bc σ x := ⟨hc1, hc2⟩
      exact ⟨⟨_, rfl, rfl⟩, by rw [sm_bring, if_pos hyes]; exact R, (hs9.trans hs20), by rw [sm_bringr, if_pos hyes, sm_bring, if_pos hyes]⟩
    · refine gx_iconst dX6_bring_25 (v := (-1)) (by decide) ?_
      refine gx_ireturn dX6_bring_26 ?_
      have hno : ¬ sm_bc σ x := fun z => hc2 z.2
      exact ⟨⟨_, rfl, rfl⟩, by rw [sm_bring, if_neg hno]; exact R, gs_sm.rfl, by rw [sm_bringr, if_neg hno]⟩
set_option maxHeartbeats 4000000 in
theorem cc_X6_twice {S : gx_S} {h : gx_H} {σ : gs_T} {A : gs_A} (R : gs_R h σ A) (hm : σ.1 31 0 0 = 1) (V : gv_V σ) (x : Int32) {q n : Nat} (hq : q < 4) (hF0 : σ.1 125 0 0 < 400) (hpre : sm_bc σ x → sm_pre σ x.toNatClampNeg q n) : gx_Cn S gm_X6_twice 6 [.ref (A 6 0 0), .int x] h (fun r h' => gs_R h' (sm_twice σ x q n) A ∧ gs_sm h h' ∧ r = some (.int (sm_twicer σ x q n))) := by
  refine gx_Cn.of gt_X6_twice (by simp [Value.category]) (Nat.le_of_ble_eq_true rfl) ?_
  show gx_Ev S gm_X6_twice 6 0 [some (.ref (A 6 0 0)), some (.int x)] [] h _
  refine gx_iload_n dX6_twice_0 rfl ?_
  refine gx_aload_n dX6_twice_1 rfl ?_
  refine gx_get dX6_twice_2 gf_X6_109 (gs_g6 R hm) (v := .int (nI (σ.1 125 0 0))) (rfl) ?_
  refine gx_invS dX6_twice_5 wm_X6_120 gt_X6_isIn ws_X6_isIn (As := [.int x, .int (nI (σ.1 125 0 0))]) (rest := []) rfl rfl (Nat.le_of_ble_eq_true rfl) (by decide) (cc_X6_isIn x (nI (σ.1 125 0 0))) (fun r1 h q1 => ?_)
  obtain ⟨rfl, rfl⟩ := q1
  show gx_Ev _ _ _ _ _ [.int (gs_bi (0 ≤ x ∧ x < (nI (σ.1 125 0 0))))] _ _
  refine gx_if_eq dX6_twice_8 (tgt := 25) (by decide) (fun hc1 => ?_) (fun hc1 => ?_)
  · have hc1 := gs_b0 hc1
    refine gx_iconst dX6_twice_25 (v := (-1)) (by decide) ?_
    refine gx_ireturn dX6_twice_26 ?_
    have hno : ¬ sm_bc σ x := fun z => hc1 z.1
    exact ⟨⟨_, rfl, rfl⟩, by rw [sm_twice, if_neg hno]; exact R, gs_sm.rfl, by rw [sm_twicer, if_neg hno]⟩
  · have hc1 := gs_b1 hc1
    refine gx_aload_n dX6_twice_11 rfl ?_
    refine gx_get dX6_twice_12 gf_X6_13 (gs_g6 R hm) (v := .ref (A 22 0 0)) (rfl) ?_
    refine gx_aload_n dX6_twice_15 rfl ?_
    refine gx_get dX6_twice_16 gf_X6_89 (gs_g6 R hm) (v := .ref (A 49 0 0)) (rfl) ?_
    refine gx_iload_n dX6_twice_19 rfl ?_
    refine gq_49 dX6_twice_20 R hm (q := x.toNatClampNeg) ((gs_ixl (N := σ.1 125 0 0) rfl hc1 (by omega)).1) (by have := (gs_ixl (N := σ.1 125 0 0) rfl hc1 (by omega)).2; omega) (v := nI (σ.1 129 x.toNatClampNeg 0)) (rfl) ?_
    refine gq_22 dX6_twice_21 R hm (q := σ.1 129 x.toNatClampNeg 0) (rfl) (Nat.lt_of_lt_of_le (gv_to V _) (gv_n4 V)) (v := σ.2.1 102 (σ.1 129 x.toNatClampNeg 0) 0) (rfl) ?_
    refine gx_if_eq dX6_twice_22 (tgt := 27) (by decide) (fun hc2 => ?_) (fun hc2 => ?_)
    · refine gx_aload_n dX6_twice_27 rfl ?_
      refine gx_iload_n dX6_twice_28 rfl ?_
      refine gx_invV dX6_twice_29 wm_X6_158 gt_X6_comes wy_X6_comes wl_X6_comes (ci := 6) rfl rfl (gs_g6 R hm) (As := [.int x]) (rest := []) rfl rfl (Nat.le_of_ble_eq_true rfl) (by decide) (cc_X6_comesE R hm V (i := x.toNatClampNeg) (q := q) (n := n) ((gs_ixl (N := σ.1 125 0 0) rfl hc1 (by omega)).1) (by have := (gs_ixl (N := σ.1 125 0 0) rfl hc1 (by omega)).2; omega) hq (hpre ⟨hc1, hc2⟩).1 (hpre ⟨hc1, hc2⟩).2.1 (hpre ⟨hc1, hc2⟩).2.2.1 (hpre ⟨hc1, hc2⟩).2.2.2) (fun r1 h q1 => ?_)
      obtain ⟨R, hs0, rfl⟩ := q1
      show gx_Ev _ _ _ _ _ [] _ _
      refine gx_aload_n dX6_twice_32 rfl ?_
      refine gx_get dX6_twice_33 gf_X6_109 (gs_g6 R (sm_lp_ok (hpre ⟨hc1, hc2⟩).2.2.2).2.1) (v := .int (nI ((sm_lp (σ.1 129 x.toNatClampNeg 0) n (sm_rb σ x.toNatClampNeg q)).1 125 0 0))) (rfl) ?_
      refine gx_ireturn dX6_twice_36 ?_
      have hyes : sm_bc σ x := ⟨hc1, hc2⟩
      exact ⟨⟨_, rfl, rfl⟩, by rw [sm_twice, if_pos hyes]; exact R, (gs_sm.rfl.trans hs0), by rw [sm_twicer, if_pos hyes, sm_twice, if_pos hyes]⟩
    · refine gx_iconst dX6_twice_25 (v := (-1)) (by decide) ?_
      refine gx_ireturn dX6_twice_26 ?_
      have hno : ¬ sm_bc σ x := fun z => hc2 z.2
      exact ⟨⟨_, rfl, rfl⟩, by rw [sm_twice, if_neg hno]; exact R, gs_sm.rfl, by rw [sm_twicer, if_neg hno]⟩
