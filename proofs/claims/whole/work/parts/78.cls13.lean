/-! the class: send and what it calls -/
def sc_ab (σ : gs_T) (x : Int32) (m : Nat) : Int64 := match m with
  | 0 => 0
  | m + 1 => if nI (σ.1 12 m 0) = x ∧ ¬ σ.2.1 3 m 0 = 0 then sc_ab σ x m ||| (1 <<< ((nI m).toInt64 &&& 63)) else sc_ab σ x m
set_option maxHeartbeats 4000000 in
theorem cl_ab {S : gx_S} {h : gx_H} {σ : gs_T} {A : gs_A} (R : gs_R h σ A) (W : gw_W σ) (x : Int32) : ∀ (m q : Nat), q + m = σ.1 1 0 0 → gx_Ev S gm_X5_answeredOrdersOf 1 5 [some (.ref (A 5 0 0)), some (.int x), some (.long (sc_ab σ x q)), none, some (.int (nI q))] [] h (fun r h' => gx_rt (some .long) r ∧ h' = h ∧ r = some (.long (sc_ab σ x (σ.1 1 0 0)))) := by
  have hcn := gw_cnt W
  intro m
  induction m with
  | zero =>
    intro q hq
    have hq0 : q = σ.1 1 0 0 := by omega
    refine gx_iload dX5_answeredOrdersOf_5 rfl ?_
    refine gx_aload_n dX5_answeredOrdersOf_7 rfl ?_
    refine gx_get dX5_answeredOrdersOf_8 gf_X5_59 (gs_g5 R ) (v := .int (nI (σ.1 1 0 0))) (rfl) ?_
    refine gx_icmp_ge dX5_answeredOrdersOf_11 (tgt := 54) (by decide) (fun hc1 => ?_) (fun hc1 => absurd hc1 (fun z => z (nI_le (by omega) (by omega))))
    refine gx_lload_n dX5_answeredOrdersOf_54 rfl ?_
    refine gx_lreturn dX5_answeredOrdersOf_55 ?_
    exact ⟨rfl, rfl, by rw [hq0]⟩
  | succ m ih =>
    intro q hq
    have hl : σ.1 11 q 0 = 1 := gw_o W (by omega)
    refine gx_iload dX5_answeredOrdersOf_5 rfl ?_
    refine gx_aload_n dX5_answeredOrdersOf_7 rfl ?_
    refine gx_get dX5_answeredOrdersOf_8 gf_X5_59 (gs_g5 R ) (v := .int (nI (σ.1 1 0 0))) (rfl) ?_
    refine gx_icmp_ge dX5_answeredOrdersOf_11 (tgt := 54) (by decide) (fun hc1 => absurd hc1 (nI_ge (by omega) (by omega))) (fun hc1 => ?_)
    refine gx_aload_n dX5_answeredOrdersOf_14 rfl ?_
    refine gx_get dX5_answeredOrdersOf_15 gf_X5_18 (gs_g5 R ) (v := .ref (A 10 0 0)) (rfl) ?_
    refine gx_iload dX5_answeredOrdersOf_18 rfl ?_
    refine gr_10 dX5_answeredOrdersOf_20 R (q := q) rfl (by omega) (by decide) hl ?_
    refine gx_get dX5_answeredOrdersOf_21 gf_X5_195 (gs_g3 R hl) (v := .int (nI (σ.1 12 q 0))) (rfl) ?_
    refine gx_iload_n dX5_answeredOrdersOf_24 rfl ?_
    refine gx_icmp_ne dX5_answeredOrdersOf_25 (tgt := 48) (by decide) (fun ha => ?_) (fun ha => ?_)
    · refine gx_iinc dX5_answeredOrdersOf_48 rfl (v := nI (q + 1)) (nI_1 _) (by decide) rfl (L' := [some (.ref (A 5 0 0)), some (.int x), some (.long (sc_ab σ x q)), none, some (.int (nI (q + 1)))]) rfl ?_
      refine gx_goto dX5_answeredOrdersOf_51 (tgt := 5) (by decide) ?_
      have e : sc_ab σ x (q + 1) = sc_ab σ x q := by rw [sc_ab, if_neg (fun z => ha z.1)]
      rw [← e]
      exact ih (q + 1) (by omega)
    · refine gx_aload_n dX5_answeredOrdersOf_28 rfl ?_
      refine gx_get dX5_answeredOrdersOf_29 gf_X5_18 (gs_g5 R ) (v := .ref (A 10 0 0)) (rfl) ?_
      refine gx_iload dX5_answeredOrdersOf_32 rfl ?_
      refine gr_10 dX5_answeredOrdersOf_34 R (q := q) rfl (by omega) (by decide) hl ?_
      refine gx_get dX5_answeredOrdersOf_35 gf_X5_150 (gs_g3 R hl) (v := .int (σ.2.1 3 q 0)) (rfl) ?_
      refine gx_if_eq dX5_answeredOrdersOf_38 (tgt := 48) (by decide) (fun hb => ?_) (fun hb => ?_)
      · refine gx_iinc dX5_answeredOrdersOf_48 rfl (v := nI (q + 1)) (nI_1 _) (by decide) rfl (L' := [some (.ref (A 5 0 0)), some (.int x), some (.long (sc_ab σ x q)), none, some (.int (nI (q + 1)))]) rfl ?_
        refine gx_goto dX5_answeredOrdersOf_51 (tgt := 5) (by decide) ?_
        have e : sc_ab σ x (q + 1) = sc_ab σ x q := by rw [sc_ab, if_neg (fun z => z.2 hb)]
        rw [← e]
        exact ih (q + 1) (by omega)
      · refine gx_lload_n dX5_answeredOrdersOf_41 rfl ?_
        refine gx_lconst dX5_answeredOrdersOf_42 (v := 1) (by decide) ?_
        refine gx_iload dX5_answeredOrdersOf_43 rfl ?_
        refine gx_lshl dX5_answeredOrdersOf_45 rfl ?_
        refine gx_lor dX5_answeredOrdersOf_46 ?_
        refine gx_lstore_n dX5_answeredOrdersOf_47 (by decide) rfl (L' := [some (.ref (A 5 0 0)), some (.int x), some (.long ((sc_ab σ x q) ||| (1 <<< ((nI q).toInt64 &&& 63)))), none, some (.int (nI q))]) rfl ?_
        refine gx_iinc dX5_answeredOrdersOf_48 rfl (v := nI (q + 1)) (nI_1 _) (by decide) rfl (L' := [some (.ref (A 5 0 0)), some (.int x), some (.long ((sc_ab σ x q) ||| (1 <<< ((nI q).toInt64 &&& 63)))), none, some (.int (nI (q + 1)))]) rfl ?_
        refine gx_goto dX5_answeredOrdersOf_51 (tgt := 5) (by decide) ?_
        have e : sc_ab σ x (q + 1) = (sc_ab σ x q) ||| (1 <<< ((nI q).toInt64 &&& 63)) := by rw [sc_ab, if_pos ⟨ha, hb⟩]
        rw [← e]
        exact ih (q + 1) (by omega)
set_option maxHeartbeats 4000000 in
theorem cc_X5_answeredOrdersOf {S : gx_S} {h : gx_H} {σ : gs_T} {A : gs_A} (R : gs_R h σ A) (W : gw_W σ) (x : Int32) : gx_Cn S gm_X5_answeredOrdersOf 1 [.ref (A 5 0 0), .int x] h (fun r h' => h' = h ∧ r = some (.long (sc_ab σ x (σ.1 1 0 0)))) := by
  refine gx_Cn.of gt_X5_answeredOrdersOf (by simp [Value.category]) (Nat.le_of_ble_eq_true rfl) ?_
  show gx_Ev S gm_X5_answeredOrdersOf 1 0 [some (.ref (A 5 0 0)), some (.int x), none, none, none] [] h _
  refine gx_lconst dX5_answeredOrdersOf_0 (v := 0) (by decide) ?_
  refine gx_lstore_n dX5_answeredOrdersOf_1 (by decide) rfl (L' := [some (.ref (A 5 0 0)), some (.int x), some (.long 0), none, none]) rfl ?_
  refine gx_iconst dX5_answeredOrdersOf_2 (v := 0) (by decide) ?_
  refine gx_istore dX5_answeredOrdersOf_3 (by decide) rfl (L' := [some (.ref (A 5 0 0)), some (.int x), some (.long 0), none, some (.int 0)]) rfl ?_
  exact cl_ab R W x (σ.1 1 0 0) 0 (by omega)
set_option maxHeartbeats 4000000 in
theorem cc_X1_partFor {S : gx_S} {h : gx_H} {σ : gs_T} {A : gs_A} (R : gs_R h σ A) (W : gw_W σ) {g q : Nat} (hh : ¬ σ.1 32 0 0 = 1) (hg : σ.1 15 g 0 = 1) (ho : σ.1 11 q 0 = 1) (hq : q < 40) (hnl : ¬ σ.1 6 g q = 1) : gx_Cn S gm_X1_partFor 2 [.ref (A 1 g 0), .ref (A 3 q 0)] h (fun r h' => ∃ A1 : gs_A, gs_R h' (sc_np (sc_nw σ 11) g q) A1 ∧ (∀ k, k ≠ 4 → A1 k = A k) ∧ (∀ x y, σ.1 6 x y = 1 → A1 4 x y = A 4 x y) ∧ r = some (.ref (A1 4 g q))) := by
  refine gx_Cn.of gt_X1_partFor (by simp [Value.category]) (Nat.le_of_ble_eq_true rfl) ?_
  show gx_Ev S gm_X1_partFor 2 0 [some (.ref (A 1 g 0)), some (.ref (A 3 q 0)), none] [] h _
  have e20 := R.2.1.1
  have hfr := R.fresh
  refine gx_new dX1_partFor_0 gk_X4 wc_X1_15 wn_X4 wi_X4 (fs := [.null, .int 0, .null, .int 0, .int 0, .int 0, .int 0, .int 0, .int 0, .int 0, .int 0]) (by decide) ?_
  have hraw := gx_push_at h 11 (gx_ob 4 [.null, .int 0, .null, .int 0, .int 0, .int 0, .int 0, .int 0, .int 0, .int 0, .int 0])
  have hfr := hfr.nw 11
  have R := R.push 11 (gx_ob 4 [.null, .int 0, .null, .int 0, .int 0, .int 0, .int 0, .int 0, .int 0, .int 0, .int 0])
  refine gx_dup dX1_partFor_3 rfl ?_
  refine gx_aload_n dX1_partFor_4 rfl ?_
  refine gx_aload_n dX1_partFor_5 rfl ?_
  refine gx_get dX1_partFor_6 gf_X1_24 (gs_g1 R hg) (v := .int (nI g)) (rfl) ?_
  refine gx_invI dX1_partFor_9 wm_X1_28 gt_X4_init rfl rfl wy_X4_init (As := [.ref (A 3 q 0), .int (nI g)]) (rest := [.ref h.1]) rfl rfl (Nat.le_of_ble_eq_true rfl) (by decide) (cc_X4_init (h := gx_push h 11 (gx_ob 4 [.null, .int 0, .null, .int 0, .int 0, .int 0, .int 0, .int 0, .int 0, .int 0, .int 0])) (a := h.1) (A 3 q 0) (nI g) hraw) (fun r1 hN q1 => ?_)
  obtain ⟨rfl, rfl⟩ := q1
  show gx_Ev _ _ _ _ _ [.ref h.1] _ _
  have R := R.raw hfr (gx_ob 4 [.ref (A 3 q 0), .int (nI g), .null, .int (-1), .int (-1), .int (-1), .int 0, .int 0, .int 0, .int 0, .int 0])
  have hc9 := gx_set_at (gx_push h 11 (gx_ob 4 [.null, .int 0, .null, .int 0, .int 0, .int 0, .int 0, .int 0, .int 0, .int 0, .int 0])) h.1 (gx_ob 4 [.ref (A 3 q 0), .int (nI g), .null, .int (-1), .int (-1), .int (-1), .int 0, .int 0, .int 0, .int 0, .int 0])
  refine gx_astore_n dX1_partFor_12 (by decide) rfl (L' := [some (.ref (A 1 g 0)), some (.ref (A 3 q 0)), some (.ref h.1)]) rfl ?_
  refine gx_aload_n dX1_partFor_13 rfl ?_
  refine gx_get dX1_partFor_14 gf_X1_17 (gs_g1 R hg) (v := .ref (A 13 g 0)) (rfl) ?_
  refine gx_aload_n dX1_partFor_17 rfl ?_
  refine gx_get dX1_partFor_18 gf_X1_31 (gs_g3 R ho) (v := .int (nI q)) (rfl) ?_
  refine gx_aload_n dX1_partFor_21 rfl ?_
  refine gx_aast dX1_partFor_22 (t := 5) (ci := 4) ⟨_, rfl, rfl, by decide⟩ (gs_g13 R hg) hc9 (vp_in_nI hq (by omega)) ?_
  rw [nI_clamp (by omega)]
  have R := R.adP (gw_oth (gw_oth W (by decide)) (by decide)) hh (a := h.1) (Nat.lt_succ_self _) hfr hg hnl hc9
  refine gx_aload_n dX1_partFor_23 rfl ?_
  refine gx_areturn dX1_partFor_24 ?_
  refine ⟨⟨_, rfl⟩, gs_u A 4 g q h.1, R, fun k hk => gs_u_ne hk, fun x z hl => ?_, ?_⟩
  · rw [gs_u_at, if_neg (fun e => hnl (by rw [← e.1, ← e.2]; exact hl))]
  · rw [gs_u_at, if_pos ⟨rfl, rfl⟩]
