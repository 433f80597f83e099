/-! the class: replay, agree -/
def sc_fl (f : Nat) (v : Int32) (σ : gs_T) (m : Nat) : gs_T := match m with
  | 0 => σ
  | m + 1 => gs_i (sc_fl f v σ m) f m 0 v
theorem sc_fl_1 (f : Nat) (v : Int32) (σ : gs_T) (m : Nat) : (sc_fl f v σ m).1 = σ.1 := by
  induction m with
  | zero => rfl
  | succ m ih => exact ih
set_option maxHeartbeats 4000000 in
theorem cl_fill11 {S : gx_S} {h0 : gx_H} {σ : gs_T} {A : gs_A} (v : Int32) : ∀ (m q : Nat) (h : gx_H), q + m = 16 → gs_R h (sc_fl 21 v σ q) A → gs_sm h0 h → gx_Ev S gm_J7_fill_53178 1 5 [some (.ref (A 11 0 0)), some (.int v), some (.int (nI q)), some (.int 16)] [] h (fun r h' => gx_rt none r ∧ gs_R h' (sc_fl 21 v σ 16) A ∧ gs_sm h0 h' ∧ r = none) := by
  intro m
  induction m with
  | zero =>
    intro q h hq R hs
    have hq0 : q = 16 := by omega
    subst hq0
    refine gx_iload_n dJ7_fill_53178_5 rfl ?_
    refine gx_iload_n dJ7_fill_53178_6 rfl ?_
    refine gx_icmp_ge dJ7_fill_53178_7 (tgt := 20) (by decide) (fun hc1 => ?_) (fun hc1 => absurd hc1 (fun z => z (by decide)))
    refine gx_return dJ7_fill_53178_20 ?_
    exact ⟨rfl, R, hs, rfl⟩
  | succ m ih =>
    intro q h hq R hs
    refine gx_iload_n dJ7_fill_53178_5 rfl ?_
    refine gx_iload_n dJ7_fill_53178_6 rfl ?_
    refine gx_icmp_ge dJ7_fill_53178_7 (tgt := 20) (by decide) (fun hc1 => absurd hc1 (nI_ge (a := q) (b := 16) (by omega) (by decide))) (fun hc1 => ?_)
    refine gx_aload_n dJ7_fill_53178_10 rfl ?_
    refine gx_iload_n dJ7_fill_53178_11 rfl ?_
    refine gx_iload_n dJ7_fill_53178_12 rfl ?_
    refine ga_I21 (σ := (sc_fl 21 v σ q))  dJ7_fill_53178_13 R (q := q) (v := v) (rfl) (by omega) (fun h R hs0 => ?_)
    refine gx_iinc dJ7_fill_53178_14 rfl (v := nI (q + 1)) (nI_1 _) (by decide) rfl (L' := [some (.ref (A 11 0 0)), some (.int v), some (.int (nI (q + 1))), some (.int 16)]) rfl ?_
    refine gx_goto dJ7_fill_53178_17 (tgt := 5) (by decide) ?_
    exact ih (q + 1) _ (by omega) R (hs.trans hs0)
set_option maxHeartbeats 4000000 in
theorem cc_fill11 {S : gx_S} {h : gx_H} {σ : gs_T} {A : gs_A} (R : gs_R h σ A) (v : Int32) : gx_Cn S gm_J7_fill_53178 1 [.ref (A 11 0 0), .int v] h (fun r h' => gs_R h' (sc_fl 21 v σ 16) A ∧ gs_sm h h' ∧ r = none) := by
  refine gx_Cn.of gt_J7_fill_53178 (by simp [Value.category]) (Nat.le_of_ble_eq_true rfl) ?_
  show gx_Ev S gm_J7_fill_53178 1 0 [some (.ref (A 11 0 0)), some (.int v), none, none] [] h _
  refine gx_iconst dJ7_fill_53178_0 (v := 0) (by decide) ?_
  refine gx_istore_n dJ7_fill_53178_1 (by decide) rfl (L' := [some (.ref (A 11 0 0)), some (.int v), some (.int 0), none]) rfl ?_
  refine gx_aload_n dJ7_fill_53178_2 rfl ?_
  refine gx_alen dJ7_fill_53178_3 (by decide) (gs_g11 R) (v := 16) rfl ?_
  refine gx_istore_n dJ7_fill_53178_4 (by decide) rfl (L' := [some (.ref (A 11 0 0)), some (.int v), some (.int 0), some (.int 16)]) rfl ?_
  exact cl_fill11 v 16 0 _ rfl R gs_sm.rfl
set_option maxHeartbeats 4000000 in
theorem cl_fill12 {S : gx_S} {h0 : gx_H} {σ : gs_T} {A : gs_A} (v : Int32) : ∀ (m q : Nat) (h : gx_H), q + m = 16 → gs_R h (sc_fl 22 v σ q) A → gs_sm h0 h → gx_Ev S gm_J7_fill_53178 1 5 [some (.ref (A 12 0 0)), some (.int v), some (.int (nI q)), some (.int 16)] [] h (fun r h' => gx_rt none r ∧ gs_R h' (sc_fl 22 v σ 16) A ∧ gs_sm h0 h' ∧ r = none) := by
  intro m
  induction m with
  | zero =>
    intro q h hq R hs
    have hq0 : q = 16 := by omega
    subst hq0
    refine gx_iload_n dJ7_fill_53178_5 rfl ?_
    refine gx_iload_n dJ7_fill_53178_6 rfl ?_
    refine gx_icmp_ge dJ7_fill_53178_7 (tgt := 20) (by decide) (fun hc1 => ?_) (fun hc1 => absurd hc1 (fun z => z (by decide)))
    refine gx_return dJ7_fill_53178_20 ?_
    exact ⟨rfl, R, hs, rfl⟩
  | succ m ih =>
    intro q h hq R hs
    refine gx_iload_n dJ7_fill_53178_5 rfl ?_
    refine gx_iload_n dJ7_fill_53178_6 rfl ?_
    refine gx_icmp_ge dJ7_fill_53178_7 (tgt := 20) (by decide) (fun hc1 => absurd hc1 (nI_ge (a := q) (b := 16) (by omega) (by decide))) (fun hc1 => ?_)
    refine gx_aload_n dJ7_fill_53178_10 rfl ?_
    refine gx_iload_n dJ7_fill_53178_11 rfl ?_
    refine gx_iload_n dJ7_fill_53178_12 rfl ?_
    refine ga_I22 (σ := (sc_fl 22 v σ q))  dJ7_fill_53178_13 R (q := q) (v := v) (rfl) (by omega) (fun h R hs0 => ?_)
    refine gx_iinc dJ7_fill_53178_14 rfl (v := nI (q + 1)) (nI_1 _) (by decide) rfl (L' := [some (.ref (A 12 0 0)), some (.int v), some (.int (nI (q + 1))), some (.int 16)]) rfl ?_
    refine gx_goto dJ7_fill_53178_17 (tgt := 5) (by decide) ?_
    exact ih (q + 1) _ (by omega) R (hs.trans hs0)
set_option maxHeartbeats 4000000 in
theorem cc_fill12 {S : gx_S} {h : gx_H} {σ : gs_T} {A : gs_A} (R : gs_R h σ A) (v : Int32) : gx_Cn S gm_J7_fill_53178 1 [.ref (A 12 0 0), .int v] h (fun r h' => gs_R h' (sc_fl 22 v σ 16) A ∧ gs_sm h h' ∧ r = none) := by
  refine gx_Cn.of gt_J7_fill_53178 (by simp [Value.category]) (Nat.le_of_ble_eq_true rfl) ?_
  show gx_Ev S gm_J7_fill_53178 1 0 [some (.ref (A 12 0 0)), some (.int v), none, none] [] h _
  refine gx_iconst dJ7_fill_53178_0 (v := 0) (by decide) ?_
  refine gx_istore_n dJ7_fill_53178_1 (by decide) rfl (L' := [some (.ref (A 12 0 0)), some (.int v), some (.int 0), none]) rfl ?_
  refine gx_aload_n dJ7_fill_53178_2 rfl ?_
  refine gx_alen dJ7_fill_53178_3 (by decide) (gs_g12 R) (v := 16) rfl ?_
  refine gx_istore_n dJ7_fill_53178_4 (by decide) rfl (L' := [some (.ref (A 12 0 0)), some (.int v), some (.int 0), some (.int 16)]) rfl ?_
  exact cl_fill12 v 16 0 _ rfl R gs_sm.rfl
def sc_r2 (σ : gs_T) (o : Nat) : gs_T := gs_i (gs_i σ 21 (σ.1 14 o 0) 0 (sc_bB σ o (σ.2.1 21 (σ.1 13 o 0) 0) (σ.2.1 21 (σ.1 14 o 0) 0))) 21 (σ.1 13 o 0) 0 (sc_bA σ o (σ.2.1 21 (σ.1 13 o 0) 0) (σ.2.1 21 (σ.1 14 o 0) 0))
def sc_r3 (σ : gs_T) (o : Nat) : gs_T := if sc_iw σ o (σ.1 13 o 0) then gs_i (sc_r2 σ o) 22 (σ.1 13 o 0) 0 ((sc_r2 σ o).2.1 21 (σ.1 13 o 0) 0) else sc_r2 σ o
def sc_ra (σ : gs_T) (o : Nat) : gs_T := if sc_iw σ o (σ.1 14 o 0) then gs_i (sc_r3 σ o) 22 (σ.1 14 o 0) 0 ((sc_r2 σ o).2.1 21 (σ.1 14 o 0) 0) else sc_r3 σ o
abbrev sc_rs (σ : gs_T) (o : Nat) : Prop := σ.2.1 4 o 0 = sc_rp σ o (σ.2.1 21 (σ.1 13 o 0) 0) (σ.2.1 21 (σ.1 14 o 0) 0)
theorem sc_ra_1 (σ : gs_T) (o : Nat) : (sc_ra σ o).1 = σ.1 := by
  unfold sc_ra sc_r3
  split <;> split <;> rfl
set_option maxHeartbeats 4000000 in
theorem cc_X5_replayAnswersTheSame {S : gx_S} {h : gx_H} {σ : gs_T} {A : gs_A} (R : gs_R h σ A) (W : gw_W σ) {o : Nat} (hoc : o < σ.1 1 0 0) : gx_Cn S gm_X5_replayAnswersTheSame 4 [.ref (A 5 0 0), .ref (A 3 o 0)] h (fun r h' => gs_R h' (sc_ra σ o) A ∧ gs_sm h h' ∧ r = some (.int (gs_bi (sc_rs σ o)))) := by
  refine gx_Cn.of gt_X5_replayAnswersTheSame (by simp [Value.category]) (Nat.le_of_ble_eq_true rfl) ?_
  show gx_Ev S gm_X5_replayAnswersTheSame 4 0 [some (.ref (A 5 0 0)), some (.ref (A 3 o 0)), none, none] [] h _
  have ho := gw_o W hoc
  refine gx_aload_n dX5_replayAnswersTheSame_0 rfl ?_
  refine gx_get dX5_replayAnswersTheSame_1 gf_X5_29 (gs_g5 R ) (v := .ref (A 11 0 0)) (rfl) ?_
  refine gx_aload_n dX5_replayAnswersTheSame_4 rfl ?_
  refine gx_get dX5_replayAnswersTheSame_5 gf_X5_198 (gs_g3 R ho) (v := .int (nI (σ.1 13 o 0))) (rfl) ?_
  refine gq_11 dX5_replayAnswersTheSame_8 R  (q := σ.1 13 o 0) (rfl) (by first | exact gw_a W o | exact gw_b W o) (v := σ.2.1 21 (σ.1 13 o 0) 0) (rfl) ?_
  refine gx_istore_n dX5_replayAnswersTheSame_9 (by decide) rfl (L' := [some (.ref (A 5 0 0)), some (.ref (A 3 o 0)), some (.int (σ.2.1 21 (σ.1 13 o 0) 0)), none]) rfl ?_
  refine gx_aload_n dX5_replayAnswersTheSame_10 rfl ?_
  refine gx_get dX5_replayAnswersTheSame_11 gf_X5_29 (gs_g5 R ) (v := .ref (A 11 0 0)) (rfl) ?_
  refine gx_aload_n dX5_replayAnswersTheSame_14 rfl ?_
  refine gx_get dX5_replayAnswersTheSame_15 gf_X5_205 (gs_g3 R ho) (v := .int (nI (σ.1 14 o 0))) (rfl) ?_
  refine gq_11 dX5_replayAnswersTheSame_18 R  (q := σ.1 14 o 0) (rfl) (by first | exact gw_a W o | exact gw_b W o) (v := σ.2.1 21 (σ.1 14 o 0) 0) (rfl) ?_
  refine gx_istore_n dX5_replayAnswersTheSame_19 (by decide) rfl (L' := [some (.ref (A 5 0 0)), some (.ref (A 3 o 0)), some (.int (σ.2.1 21 (σ.1 13 o 0) 0)), some (.int (σ.2.1 21 (σ.1 14 o 0) 0))]) rfl ?_
  refine gx_aload_n dX5_replayAnswersTheSame_20 rfl ?_
  refine gx_get dX5_replayAnswersTheSame_21 gf_X5_29 (gs_g5 R ) (v := .ref (A 11 0 0)) (rfl) ?_
  refine gx_aload_n dX5_replayAnswersTheSame_24 rfl ?_
  refine gx_get dX5_replayAnswersTheSame_25 gf_X5_205 (gs_g3 R ho) (v := .int (nI (σ.1 14 o 0))) (rfl) ?_
  refine gx_aload_n dX5_replayAnswersTheSame_28 rfl ?_
  refine gx_iload_n dX5_replayAnswersTheSame_29 rfl ?_
  refine gx_iload_n dX5_replayAnswersTheSame_30 rfl ?_
  refine gx_invV dX5_replayAnswersTheSame_31 wm_X5_265 gt_X3_behindB wy_X3_behindB wl_X3_behindB (ci := 3) rfl rfl (gs_g3 R ho) (As := [.int (σ.2.1 21 (σ.1 13 o 0) 0), .int (σ.2.1 21 (σ.1 14 o 0) 0)]) (rest := [.int (nI (σ.1 14 o 0)), .ref (A 11 0 0)]) rfl rfl (Nat.le_of_ble_eq_true rfl) (by decide) (cc_X3_behindB R W ho (σ.2.1 21 (σ.1 13 o 0) 0) (σ.2.1 21 (σ.1 14 o 0) 0)) (fun r1 h q1 => ?_)
  obtain ⟨rfl, rfl⟩ := q1
  show gx_Ev _ _ _ _ _ [.int (sc_bB σ o (σ.2.1 21 (σ.1 13 o 0) 0) (σ.2.1 21 (σ.1 14 o 0) 0)), .int (nI (σ.1 14 o 0)), .ref (A 11 0 0)] _ _
  refine ga_I21 (σ := σ)  dX5_replayAnswersTheSame_34 R (q := σ.1 14 o 0) (v := sc_bB σ o (σ.2.1 21 (σ.1 13 o 0) 0) (σ.2.1 21 (σ.1 14 o 0) 0)) (rfl) (by first | exact gw_a W o | exact gw_b W o) (fun h R hs0 => ?_)
  refine gx_aload_n dX5_replayAnswersTheSame_35 rfl ?_
  refine gx_get dX5_replayAnswersTheSame_36 gf_X5_29 (gs_g5 R ) (v := .ref (A 11 0 0)) (rfl) ?_
  refine gx_aload_n dX5_replayAnswersTheSame_39 rfl ?_
  refine gx_get dX5_replayAnswersTheSame_40 gf_X5_198 (gs_g3 R ho) (v := .int (nI (σ.1 13 o 0))) (rfl) ?_
  refine gx_aload_n dX5_replayAnswersTheSame_43 rfl ?_
  refine gx_iload_n dX5_replayAnswersTheSame_44 rfl ?_
  refine gx_iload_n dX5_replayAnswersTheSame_45 rfl ?_
  refine gx_invV dX5_replayAnswersTheSame_46 wm_X5_268 gt_X3_behindA wy_X3_behindA wl_X3_behindA (ci := 3) rfl rfl (gs_g3 R ho) (As := [.int (σ.2.1 21 (σ.1 13 o 0) 0), .int (σ.2.1 21 (σ.1 14 o 0) 0)]) (rest := [.int (nI (σ.1 13 o 0)), .ref (A 11 0 0)]) rfl rfl (Nat.le_of_ble_eq_true rfl) (by decide) (cc_X3_behindA R W ho (σ.2.1 21 (σ.1 13 o 0) 0) (σ.2.1 21 (σ.1 14 o 0) 0)) (fun r1 h q1 => ?_)
  obtain ⟨rfl, rfl⟩ := q1
  show gx_Ev _ _ _ _ _ [.int (sc_bA σ o (σ.2.1 21 (σ.1 13 o 0) 0) (σ.2.1 21 (σ.1 14 o 0) 0)), .int (nI (σ.1 13 o 0)), .ref (A 11 0 0)] _ _
  refine ga_I21 (σ := (gs_i σ 21 (σ.1 14 o 0) 0 (sc_bB σ o (σ.2.1 21 (σ.1 13 o 0) 0) (σ.2.1 21 (σ.1 14 o 0) 0))))  dX5_replayAnswersTheSame_49 R (q := σ.1 13 o 0) (v := sc_bA σ o (σ.2.1 21 (σ.1 13 o 0) 0) (σ.2.1 21 (σ.1 14 o 0) 0)) (rfl) (by first | exact gw_a W o | exact gw_b W o) (fun h R hs1 => ?_)
  refine gx_aload_n dX5_replayAnswersTheSame_50 rfl ?_
  refine gx_aload_n dX5_replayAnswersTheSame_51 rfl ?_
  refine gx_aload_n dX5_replayAnswersTheSame_52 rfl ?_
  refine gx_get dX5_replayAnswersTheSame_53 gf_X5_198 (gs_g3 R ho) (v := .int (nI (σ.1 13 o 0))) (rfl) ?_
  refine gx_invV dX5_replayAnswersTheSame_56 wm_X5_274 gt_X5_isWorkedOutAt wy_X5_isWorkedOutAt wl_X5_isWorkedOutAt (ci := 5) rfl rfl (gs_g5 R ) (As := [.ref (A 3 o 0), .int (nI (σ.1 13 o 0))]) (rest := []) rfl rfl (Nat.le_of_ble_eq_true rfl) (by decide) (cc_X5_isWorkedOutAt R W (o := o) (k := σ.1 13 o 0) (hoc) (gw_a W o)) (fun r1 h q1 => ?_)
  obtain ⟨rfl, rfl⟩ := q1
  show gx_Ev _ _ _ _ _ [.int (gs_bi (sc_iw σ o (σ.1 13 o 0)))] _ _
  refine gx_if_eq dX5_replayAnswersTheSame_59 (tgt := 80) (by decide) (fun ha => ?_) (fun ha => ?_)
  · have ha := gs_b0 ha
    refine gx_aload_n dX5_replayAnswersTheSame_80 rfl ?_
    refine gx_aload_n dX5_replayAnswersTheSame_81 rfl ?_
    refine gx_aload_n dX5_replayAnswersTheSame_82 rfl ?_
    refine gx_get dX5_replayAnswersTheSame_83 gf_X5_205 (gs_g3 R ho) (v := .int (nI (σ.1 14 o 0))) (rfl) ?_
    refine gx_invV dX5_replayAnswersTheSame_86 wm_X5_274 gt_X5_isWorkedOutAt wy_X5_isWorkedOutAt wl_X5_isWorkedOutAt (ci := 5) rfl rfl (gs_g5 R ) (As := [.ref (A 3 o 0), .int (nI (σ.1 14 o 0))]) (rest := []) rfl rfl (Nat.le_of_ble_eq_true rfl) (by decide) (cc_X5_isWorkedOutAt R W (o := o) (k := σ.1 14 o 0) (hoc) (gw_b W o)) (fun r1 h q1 => ?_)
    obtain ⟨rfl, rfl⟩ := q1
    show gx_Ev _ _ _ _ _ [.int (gs_bi (sc_iw σ o (σ.1 14 o 0)))] _ _
    refine gx_if_eq dX5_replayAnswersTheSame_89 (tgt := 110) (by decide) (fun hb => ?_) (fun hb => ?_)
    · have hb := gs_b0 hb
      refine gx_aload_n dX5_replayAnswersTheSame_110 rfl ?_
      refine gx_get dX5_replayAnswersTheSame_111 gf_X5_144 (gs_g3 R ho) (v := .int (σ.2.1 4 o 0)) (rfl) ?_
      refine gx_aload_n dX5_replayAnswersTheSame_114 rfl ?_
      refine gx_iload_n dX5_replayAnswersTheSame_115 rfl ?_
      refine gx_iload_n dX5_replayAnswersTheSame_116 rfl ?_
      refine gx_invV dX5_replayAnswersTheSame_117 wm_X5_271 gt_X3_reply wy_X3_reply wl_X3_reply (ci := 3) rfl rfl (gs_g3 R ho) (As := [.int (σ.2.1 21 (σ.1 13 o 0) 0), .int (σ.2.1 21 (σ.1 14 o 0) 0)]) (rest := [.int (σ.2.1 4 o 0)]) rfl rfl (Nat.le_of_ble_eq_true rfl) (by decide) (cc_X3_reply R W ho (σ.2.1 21 (σ.1 13 o 0) 0) (σ.2.1 21 (σ.1 14 o 0) 0)) (fun r1 h q1 => ?_)
      obtain ⟨rfl, rfl⟩ := q1
      show gx_Ev _ _ _ _ _ [.int (sc_rp σ o (σ.2.1 21 (σ.1 13 o 0) 0) (σ.2.1 21 (σ.1 14 o 0) 0)), .int (σ.2.1 4 o 0)] _ _
      refine gx_icmp_ne dX5_replayAnswersTheSame_120 (tgt := 127) (by decide) (fun hr => ?_) (fun hr => ?_)
      · refine gx_iconst dX5_replayAnswersTheSame_127 (v := 0) (by decide) ?_
        refine gx_ireturn dX5_replayAnswersTheSame_128 ?_
        have ea : (sc_r2 σ o).2.1 21 (σ.1 13 o 0) 0 = sc_bA σ o (σ.2.1 21 (σ.1 13 o 0) 0) (σ.2.1 21 (σ.1 14 o 0) 0) := by simp [sc_r2, gs_i, gs_u]
        have e3 : sc_r3 σ o = sc_r2 σ o := by rw [sc_r3, if_neg ha]
        exact ⟨⟨_, rfl, rfl⟩, by rw [sc_ra, if_neg hb, e3]; exact R, ((gs_sm.rfl.trans hs0).trans hs1), congrArg (fun z => some (Value.int z)) (gs_bf hr)⟩
      · refine gx_iconst dX5_replayAnswersTheSame_123 (v := 1) (by decide) ?_
        refine gx_goto dX5_replayAnswersTheSame_124 (tgt := 128) (by decide) ?_
        refine gx_ireturn dX5_replayAnswersTheSame_128 ?_
        have ea : (sc_r2 σ o).2.1 21 (σ.1 13 o 0) 0 = sc_bA σ o (σ.2.1 21 (σ.1 13 o 0) 0) (σ.2.1 21 (σ.1 14 o 0) 0) := by simp [sc_r2, gs_i, gs_u]
        have e3 : sc_r3 σ o = sc_r2 σ o := by rw [sc_r3, if_neg ha]
        exact ⟨⟨_, rfl, rfl⟩, by rw [sc_ra, if_neg hb, e3]; exact R, ((gs_sm.rfl.trans hs0).trans hs1), congrArg (fun z => some (Value.int z)) (gs_bt hr)⟩
    · have hb := gs_b1 hb
      refine gx_aload_n dX5_replayAnswersTheSame_92 rfl ?_
      refine gx_get dX5_replayAnswersTheSame_93 gf_X5_32 (gs_g5 R ) (v := .ref (A 12 0 0)) (rfl) ?_
      refine gx_aload_n dX5_replayAnswersTheSame_96 rfl ?_
      refine gx_get dX5_replayAnswersTheSame_97 gf_X5_205 (gs_g3 R ho) (v := .int (nI (σ.1 14 o 0))) (rfl) ?_
      refine gx_aload_n dX5_replayAnswersTheSame_100 rfl ?_
      refine gx_get dX5_replayAnswersTheSame_101 gf_X5_29 (gs_g5 R ) (v := .ref (A 11 0 0)) (rfl) ?_
      refine gx_aload_n dX5_replayAnswersTheSame_104 rfl ?_
      refine gx_get dX5_replayAnswersTheSame_105 gf_X5_205 (gs_g3 R ho) (v := .int (nI (σ.1 14 o 0))) (rfl) ?_
      refine gq_11 dX5_replayAnswersTheSame_108 R  (q := σ.1 14 o 0) (rfl) (by first | exact gw_a W o | exact gw_b W o) (v := (gs_i (gs_i σ 21 (σ.1 14 o 0) 0 (sc_bB σ o (σ.2.1 21 (σ.1 13 o 0) 0) (σ.2.1 21 (σ.1 14 o 0) 0))) 21 (σ.1 13 o 0) 0 (sc_bA σ o (σ.2.1 21 (σ.1 13 o 0) 0) (σ.2.1 21 (σ.1 14 o 0) 0))).2.1 21 (σ.1 14 o 0) 0) (rfl) ?_
      refine ga_I22 (σ := (gs_i (gs_i σ 21 (σ.1 14 o 0) 0 (sc_bB σ o (σ.2.1 21 (σ.1 13 o 0) 0) (σ.2.1 21 (σ.1 14 o 0) 0))) 21 (σ.1 13 o 0) 0 (sc_bA σ o (σ.2.1 21 (σ.1 13 o 0) 0) (σ.2.1 21 (σ.1 14 o 0) 0))))  dX5_replayAnswersTheSame_109 R (q := σ.1 14 o 0) (v := (gs_i (gs_i σ 21 (σ.1 14 o 0) 0 (sc_bB σ o (σ.2.1 21 (σ.1 13 o 0) 0) (σ.2.1 21 (σ.1 14 o 0) 0))) 21 (σ.1 13 o 0) 0 (sc_bA σ o (σ.2.1 21 (σ.1 13 o 0) 0) (σ.2.1 21 (σ.1 14 o 0) 0))).2.1 21 (σ.1 14 o 0) 0) (rfl) (by first | exact gw_a W o | exact gw_b W o) (fun h R hs2 => ?_)
      refine gx_aload_n dX5_replayAnswersTheSame_110 rfl ?_
      refine gx_get dX5_replayAnswersTheSame_111 gf_X5_144 (gs_g3 R ho) (v := .int (σ.2.1 4 o 0)) (rfl) ?_
      refine gx_aload_n dX5_replayAnswersTheSame_114 rfl ?_
      refine gx_iload_n dX5_replayAnswersTheSame_115 rfl ?_
      refine gx_iload_n dX5_replayAnswersTheSame_116 rfl ?_
      refine gx_invV dX5_replayAnswersTheSame_117 wm_X5_271 gt_X3_reply wy_X3_reply wl_X3_reply (ci := 3) rfl rfl (gs_g3 R ho) (As := [.int (σ.2.1 21 (σ.1 13 o 0) 0), .int (σ.2.1 21 (σ.1 14 o 0) 0)]) (rest := [.int (σ.2.1 4 o 0)]) rfl rfl (Nat.le_of_ble_eq_true rfl) (by decide) (cc_X3_reply R W ho (σ.2.1 21 (σ.1 13 o 0) 0) (σ.2.1 21 (σ.1 14 o 0) 0)) (fun r1 h q1 => ?_)
      obtain ⟨rfl, rfl⟩ := q1
      show gx_Ev _ _ _ _ _ [.int (sc_rp σ o (σ.2.1 21 (σ.1 13 o 0) 0) (σ.2.1 21 (σ.1 14 o 0) 0)), .int (σ.2.1 4 o 0)] _ _
      refine gx_icmp_ne dX5_replayAnswersTheSame_120 (tgt := 127) (by decide) (fun hr => ?_) (fun hr => ?_)
      · refine gx_iconst dX5_replayAnswersTheSame_127 (v := 0) (by decide) ?_
        refine gx_ireturn dX5_replayAnswersTheSame_128 ?_
        have ea : (sc_r2 σ o).2.1 21 (σ.1 13 o 0) 0 = sc_bA σ o (σ.2.1 21 (σ.1 13 o 0) 0) (σ.2.1 21 (σ.1 14 o 0) 0) := by simp [sc_r2, gs_i, gs_u]
        have e3 : sc_r3 σ o = sc_r2 σ o := by rw [sc_r3, if_neg ha]
        exact ⟨⟨_, rfl, rfl⟩, by rw [sc_ra, if_pos hb, e3]; exact R, (((gs_sm.rfl.trans hs0).trans hs1).trans hs2), congrArg (fun z => some (Value.int z)) (gs_bf hr)⟩
      · refine gx_iconst dX5_replayAnswersTheSame_123 (v := 1) (by decide) ?_
        refine gx_goto dX5_replayAnswersTheSame_124 (tgt := 128) (by decide) ?_
        refine gx_ireturn dX5_replayAnswersTheSame_128 ?_
        have ea : (sc_r2 σ o).2.1 21 (σ.1 13 o 0) 0 = sc_bA σ o (σ.2.1 21 (σ.1 13 o 0) 0) (σ.2.1 21 (σ.1 14 o 0) 0) := by simp [sc_r2, gs_i, gs_u]
        have e3 : sc_r3 σ o = sc_r2 σ o := by rw [sc_r3, if_neg ha]
        exact ⟨⟨_, rfl, rfl⟩, by rw [sc_ra, if_pos hb, e3]; exact R, (((gs_sm.rfl.trans hs0).trans hs1).trans hs2), congrArg (fun z => some (Value.int z)) (gs_bt hr)⟩
  · have ha := gs_b1 ha
    refine gx_aload_n dX5_replayAnswersTheSame_62 rfl ?_
    refine gx_get dX5_replayAnswersTheSame_63 gf_X5_32 (gs_g5 R ) (v := .ref (A 12 0 0)) (rfl) ?_
    refine gx_aload_n dX5_replayAnswersTheSame_66 rfl ?_
    refine gx_get dX5_replayAnswersTheSame_67 gf_X5_198 (gs_g3 R ho) (v := .int (nI (σ.1 13 o 0))) (rfl) ?_
    refine gx_aload_n dX5_replayAnswersTheSame_70 rfl ?_
    refine gx_get dX5_replayAnswersTheSame_71 gf_X5_29 (gs_g5 R ) (v := .ref (A 11 0 0)) (rfl) ?_
    refine gx_aload_n dX5_replayAnswersTheSame_74 rfl ?_
    refine gx_get dX5_replayAnswersTheSame_75 gf_X5_198 (gs_g3 R ho) (v := .int (nI (σ.1 13 o 0))) (rfl) ?_
    refine gq_11 dX5_replayAnswersTheSame_78 R  (q := σ.1 13 o 0) (rfl) (by first | exact gw_a W o | exact gw_b W o) (v := sc_bA σ o (σ.2.1 21 (σ.1 13 o 0) 0) (σ.2.1 21 (σ.1 14 o 0) 0)) (by simp [gs_i, gs_n, gs_u]) ?_
    refine ga_I22 (σ := (gs_i (gs_i σ 21 (σ.1 14 o 0) 0 (sc_bB σ o (σ.2.1 21 (σ.1 13 o 0) 0) (σ.2.1 21 (σ.1 14 o 0) 0))) 21 (σ.1 13 o 0) 0 (sc_bA σ o (σ.2.1 21 (σ.1 13 o 0) 0) (σ.2.1 21 (σ.1 14 o 0) 0))))  dX5_replayAnswersTheSame_79 R (q := σ.1 13 o 0) (v := sc_bA σ o (σ.2.1 21 (σ.1 13 o 0) 0) (σ.2.1 21 (σ.1 14 o 0) 0)) (rfl) (by first | exact gw_a W o | exact gw_b W o) (fun h R hs2 => ?_)
    refine gx_aload_n dX5_replayAnswersTheSame_80 rfl ?_
    refine gx_aload_n dX5_replayAnswersTheSame_81 rfl ?_
    refine gx_aload_n dX5_replayAnswersTheSame_82 rfl ?_
    refine gx_get dX5_replayAnswersTheSame_83 gf_X5_205 (gs_g3 R ho) (v := .int (nI (σ.1 14 o 0))) (rfl) ?_
    refine gx_invV dX5_replayAnswersTheSame_86 wm_X5_274 gt_X5_isWorkedOutAt wy_X5_isWorkedOutAt wl_X5_isWorkedOutAt (ci := 5) rfl rfl (gs_g5 R ) (As := [.ref (A 3 o 0), .int (nI (σ.1 14 o 0))]) (rest := []) rfl rfl (Nat.le_of_ble_eq_true rfl) (by decide) (cc_X5_isWorkedOutAt R W (o := o) (k := σ.1 14 o 0) (hoc) (gw_b W o)) (fun r1 h q1 => ?_)
    obtain ⟨rfl, rfl⟩ := q1
    show gx_Ev _ _ _ _ _ [.int (gs_bi (sc_iw σ o (σ.1 14 o 0)))] _ _
    refine gx_if_eq dX5_replayAnswersTheSame_89 (tgt := 110) (by decide) (fun hb => ?_) (fun hb => ?_)
    · have hb := gs_b0 hb
      refine gx_aload_n dX5_replayAnswersTheSame_110 rfl ?_
      refine gx_get dX5_replayAnswersTheSame_111 gf_X5_144 (gs_g3 R ho) (v := .int (σ.2.1 4 o 0)) (rfl) ?_
      refine gx_aload_n dX5_replayAnswersTheSame_114 rfl ?_
      refine gx_iload_n dX5_replayAnswersTheSame_115 rfl ?_
      refine gx_iload_n dX5_replayAnswersTheSame_116 rfl ?_
      refine gx_invV dX5_replayAnswersTheSame_117 wm_X5_271 gt_X3_reply wy_X3_reply wl_X3_reply (ci := 3) rfl rfl (gs_g3 R ho) (As := [.int (σ.2.1 21 (σ.1 13 o 0) 0), .int (σ.2.1 21 (σ.1 14 o 0) 0)]) (rest := [.int (σ.2.1 4 o 0)]) rfl rfl (Nat.le_of_ble_eq_true rfl) (by decide) (cc_X3_reply R W ho (σ.2.1 21 (σ.1 13 o 0) 0) (σ.2.1 21 (σ.1 14 o 0) 0)) (fun r1 h q1 => ?_)
      obtain ⟨rfl, rfl⟩ := q1
      show gx_Ev _ _ _ _ _ [.int (sc_rp σ o (σ.2.1 21 (σ.1 13 o 0) 0) (σ.2.1 21 (σ.1 14 o 0) 0)), .int (σ.2.1 4 o 0)] _ _
      refine gx_icmp_ne dX5_replayAnswersTheSame_120 (tgt := 127) (by decide) (fun hr => ?_) (fun hr => ?_)
      · refine gx_iconst dX5_replayAnswersTheSame_127 (v := 0) (by decide) ?_
        refine gx_ireturn dX5_replayAnswersTheSame_128 ?_
        have ea : (sc_r2 σ o).2.1 21 (σ.1 13 o 0) 0 = sc_bA σ o (σ.2.1 21 (σ.1 13 o 0) 0) (σ.2.1 21 (σ.1 14 o 0) 0) := by simp [sc_r2, gs_i, gs_u]
        have e3 : sc_r3 σ o = gs_i (sc_r2 σ o) 22 (σ.1 13 o 0) 0 (sc_bA σ o (σ.2.1 21 (σ.1 13 o 0) 0) (σ.2.1 21 (σ.1 14 o 0) 0)) := by rw [sc_r3, if_pos ha, ea]
        exact ⟨⟨_, rfl, rfl⟩, by rw [sc_ra, if_neg hb, e3]; exact R, (((gs_sm.rfl.trans hs0).trans hs1).trans hs2), congrArg (fun z => some (Value.int z)) (gs_bf hr)⟩
      · refine gx_iconst dX5_replayAnswersTheSame_123 (v := 1) (by decide) ?_
        refine gx_goto dX5_replayAnswersTheSame_124 (tgt := 128) (by decide) ?_
        refine gx_ireturn dX5_replayAnswersTheSame_128 ?_
        have ea : (sc_r2 σ o).2.1 21 (σ.1 13 o 0) 0 = sc_bA σ o (σ.2.1 21 (σ.1 13 o 0) 0) (σ.2.1 21 (σ.1 14 o 0) 0) := by simp [sc_r2, gs_i, gs_u]
        have e3 : sc_r3 σ o = gs_i (sc_r2 σ o) 22 (σ.1 13 o 0) 0 (sc_bA σ o (σ.2.1 21 (σ.1 13 o 0) 0) (σ.2.1 21 (σ.1 14 o 0) 0)) := by rw [sc_r3, if_pos ha, ea]
        exact ⟨⟨_, rfl, rfl⟩, by rw [sc_ra, if_neg hb, e3]; exact R, (((gs_sm.rfl.trans hs0).trans hs1).trans hs2), congrArg (fun z => some (Value.int z)) (gs_bt hr)⟩
    · have hb := gs_b1 hb
      refine gx_aload_n dX5_replayAnswersTheSame_92 rfl ?_
      refine gx_get dX5_replayAnswersTheSame_93 gf_X5_32 (gs_g5 R ) (v := .ref (A 12 0 0)) (rfl) ?_
      refine gx_aload_n dX5_replayAnswersTheSame_96 rfl ?_
      refine gx_get dX5_replayAnswersTheSame_97 gf_X5_205 (gs_g3 R ho) (v := .int (nI (σ.1 14 o 0))) (rfl) ?_
      refine gx_aload_n dX5_replayAnswersTheSame_100 rfl ?_
      refine gx_get dX5_replayAnswersTheSame_101 gf_X5_29 (gs_g5 R ) (v := .ref (A 11 0 0)) (rfl) ?_
      refine gx_aload_n dX5_replayAnswersTheSame_104 rfl ?_
      refine gx_get dX5_replayAnswersTheSame_105 gf_X5_205 (gs_g3 R ho) (v := .int (nI (σ.1 14 o 0))) (rfl) ?_
      refine gq_11 dX5_replayAnswersTheSame_108 R  (q := σ.1 14 o 0) (rfl) (by first | exact gw_a W o | exact gw_b W o) (v := (gs_i (gs_i σ 21 (σ.1 14 o 0) 0 (sc_bB σ o (σ.2.1 21 (σ.1 13 o 0) 0) (σ.2.1 21 (σ.1 14 o 0) 0))) 21 (σ.1 13 o 0) 0 (sc_bA σ o (σ.2.1 21 (σ.1 13 o 0) 0) (σ.2.1 21 (σ.1 14 o 0) 0))).2.1 21 (σ.1 14 o 0) 0) (rfl) ?_
      refine ga_I22 (σ := (gs_i (gs_i (gs_i σ 21 (σ.1 14 o 0) 0 (sc_bB σ o (σ.2.1 21 (σ.1 13 o 0) 0) (σ.2.1 21 (σ.1 14 o 0) 0))) 21 (σ.1 13 o 0) 0 (sc_bA σ o (σ.2.1 21 (σ.1 13 o 0) 0) (σ.2.1 21 (σ.1 14 o 0) 0))) 22 (σ.1 13 o 0) 0 (sc_bA σ o (σ.2.1 21 (σ.1 13 o 0) 0) (σ.2.1 21 (σ.1 14 o 0) 0))))  dX5_replayAnswersTheSame_109 R (q := σ.1 14 o 0) (v := (gs_i (gs_i σ 21 (σ.1 14 o 0) 0 (sc_bB σ o (σ.2.1 21 (σ.1 13 o 0) 0) (σ.2.1 21 (σ.1 14 o 0) 0))) 21 (σ.1 13 o 0) 0 (sc_bA σ o (σ.2.1 21 (σ.1 13 o 0) 0) (σ.2.1 21 (σ.1 14 o 0) 0))).2.1 21 (σ.1 14 o 0) 0) (rfl) (by first | exact gw_a W o | exact gw_b W o) (fun h R hs3 => ?_)
      refine gx_aload_n dX5_replayAnswersTheSame_110 rfl ?_
      refine gx_get dX5_replayAnswersTheSame_111 gf_X5_144 (gs_g3 R ho) (v := .int (σ.2.1 4 o 0)) (rfl) ?_
      refine gx_aload_n dX5_replayAnswersTheSame_114 rfl ?_
      refine gx_iload_n dX5_replayAnswersTheSame_115 rfl ?_
      refine gx_iload_n dX5_replayAnswersTheSame_116 rfl ?_
      refine gx_invV dX5_replayAnswersTheSame_117 wm_X5_271 gt_X3_reply wy_X3_reply wl_X3_reply (ci := 3) rfl rfl (gs_g3 R ho) (As := [.int (σ.2.1 21 (σ.1 13 o 0) 0), .int (σ.2.1 21 (σ.1 14 o 0) 0)]) (rest := [.int (σ.2.1 4 o 0)]) rfl rfl (Nat.le_of_ble_eq_true rfl) (by decide) (cc_X3_reply R W ho (σ.2.1 21 (σ.1 13 o 0) 0) (σ.2.1 21 (σ.1 14 o 0) 0)) (fun r1 h q1 => ?_)
      obtain ⟨rfl, rfl⟩ := q1
      show gx_Ev _ _ _ _ _ [.int (sc_rp σ o (σ.2.1 21 (σ.1 13 o 0) 0) (σ.2.1 21 (σ.1 14 o 0) 0)), .int (σ.2.1 4 o 0)] _ _
      refine gx_icmp_ne dX5_replayAnswersTheSame_120 (tgt := 127) (by decide) (fun hr => ?_) (fun hr => ?_)
      · refine gx_iconst dX5_replayAnswersTheSame_127 (v := 0) (by decide) ?_
        refine gx_ireturn dX5_replayAnswersTheSame_128 ?_
        have ea : (sc_r2 σ o).2.1 21 (σ.1 13 o 0) 0 = sc_bA σ o (σ.2.1 21 (σ.1 13 o 0) 0) (σ.2.1 21 (σ.1 14 o 0) 0) := by simp [sc_r2, gs_i, gs_u]
        have e3 : sc_r3 σ o = gs_i (sc_r2 σ o) 22 (σ.1 13 o 0) 0 (sc_bA σ o (σ.2.1 21 (σ.1 13 o 0) 0) (σ.2.1 21 (σ.1 14 o 0) 0)) := by rw [sc_r3, if_pos ha, ea]
        exact ⟨⟨_, rfl, rfl⟩, by rw [sc_ra, if_pos hb, e3]; exact R, ((((gs_sm.rfl.trans hs0).trans hs1).trans hs2).trans hs3), congrArg (fun z => some (Value.int z)) (gs_bf hr)⟩
      · refine gx_iconst dX5_replayAnswersTheSame_123 (v := 1) (by decide) ?_
        refine gx_goto dX5_replayAnswersTheSame_124 (tgt := 128) (by decide) ?_
        refine gx_ireturn dX5_replayAnswersTheSame_128 ?_
        have ea : (sc_r2 σ o).2.1 21 (σ.1 13 o 0) 0 = sc_bA σ o (σ.2.1 21 (σ.1 13 o 0) 0) (σ.2.1 21 (σ.1 14 o 0) 0) := by simp [sc_r2, gs_i, gs_u]
        have e3 : sc_r3 σ o = gs_i (sc_r2 σ o) 22 (σ.1 13 o 0) 0 (sc_bA σ o (σ.2.1 21 (σ.1 13 o 0) 0) (σ.2.1 21 (σ.1 14 o 0) 0)) := by rw [sc_r3, if_pos ha, ea]
        exact ⟨⟨_, rfl, rfl⟩, by rw [sc_ra, if_pos hb, e3]; exact R, ((((gs_sm.rfl.trans hs0).trans hs1).trans hs2).trans hs3), congrArg (fun z => some (Value.int z)) (gs_bt hr)⟩
