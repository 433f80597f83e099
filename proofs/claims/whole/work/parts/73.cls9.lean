/-! the class: what agree and count look at -/
abbrev sc_iw (σ : gs_T) (o k : Nat) : Prop := σ.1 6 (k % σ.1 0 0 0) o = 1 ∧ ¬ σ.2.1 15 (k % σ.1 0 0 0) o = 0
def sc_ft (σ : gs_T) (o : Nat) : Int32 := if σ.1 6 (σ.1 13 o 0 % σ.1 0 0 0) o = 1 ∧ σ.1 6 (σ.1 14 o 0 % σ.1 0 0 0) o = 1 then (if σ.2.1 10 (σ.1 13 o 0 % σ.1 0 0 0) o = -1 then σ.2.1 10 (σ.1 14 o 0 % σ.1 0 0 0) o else σ.2.1 10 (σ.1 13 o 0 % σ.1 0 0 0) o) else -1
abbrev sc_bh (σ : gs_T) (p q : Nat) : Prop := sc_ft σ q < sc_ft σ p ∨ (sc_ft σ p = sc_ft σ q ∧ q < p)
set_option maxHeartbeats 4000000 in
theorem cc_X5_isWorkedOutAt {S : gx_S} {h : gx_H} {σ : gs_T} {A : gs_A} (R : gs_R h σ A) (W : gw_W σ) {o k : Nat} (hoc : o < σ.1 1 0 0) (hk : k < 16) : gx_Cn S gm_X5_isWorkedOutAt 2 [.ref (A 5 0 0), .ref (A 3 o 0), .int (nI k)] h (fun r h' => h' = h ∧ r = some (.int (gs_bi (sc_iw σ o k)))) := by
  refine gx_Cn.of gt_X5_isWorkedOutAt (by simp [Value.category]) (Nat.le_of_ble_eq_true rfl) ?_
  show gx_Ev S gm_X5_isWorkedOutAt 2 0 [some (.ref (A 5 0 0)), some (.ref (A 3 o 0)), some (.int (nI k)), none] [] h _
  have hn4 := gw_n4 W
  have hn2 := gw_n2 W
  have hcn := gw_cnt W
  have hk9 := Nat.mod_lt k (show 0 < σ.1 0 0 0 by omega)
  have ho := gw_o W hoc
  by_cases hex : σ.1 6 (k % σ.1 0 0 0) o = 1
  · refine gx_aload_n dX5_isWorkedOutAt_0 rfl ?_
    refine gx_iload_n dX5_isWorkedOutAt_1 rfl ?_
    refine gx_invV dX5_isWorkedOutAt_2 wm_X5_201 gt_X5_keeperOf wy_X5_keeperOf wl_X5_keeperOf (ci := 5) rfl rfl (gs_g5 R ) (As := [.int (nI k)]) (rest := []) rfl rfl (Nat.le_of_ble_eq_true rfl) (by decide) (cc_X5_keeperOf R W (k := k) (hk)) (fun r1 h q1 => ?_)
    obtain ⟨rfl, rfl⟩ := q1
    show gx_Ev _ _ _ _ _ [.ref (A 1 (k % σ.1 0 0 0) 0)] _ _
    refine gx_get dX5_isWorkedOutAt_5 gf_X5_153 (gs_g1 R (gw_g W hk9)) (v := .ref (A 13 (k % σ.1 0 0 0) 0)) (rfl) ?_
    refine gx_aload_n dX5_isWorkedOutAt_8 rfl ?_
    refine gx_get dX5_isWorkedOutAt_9 gf_X5_85 (gs_g3 R ho) (v := .int (nI o)) (rfl) ?_
    refine gr_13 dX5_isWorkedOutAt_12 R (gw_g W hk9) (q := o) rfl (by omega) (by decide) hex ?_
    refine gx_astore_n dX5_isWorkedOutAt_13 (by decide) rfl (L' := [some (.ref (A 5 0 0)), some (.ref (A 3 o 0)), some (.int (nI k)), some (.ref (A 4 (k % σ.1 0 0 0) o))]) rfl ?_
    refine gx_aload_n dX5_isWorkedOutAt_14 rfl ?_
    refine gx_ifnull dX5_isWorkedOutAt_15 ?_
    refine gx_aload_n dX5_isWorkedOutAt_18 rfl ?_
    refine gx_get dX5_isWorkedOutAt_19 gf_X5_162 (gs_g4 R hex) (v := .int (σ.2.1 15 (k % σ.1 0 0 0) o)) (rfl) ?_
    refine gx_if_eq dX5_isWorkedOutAt_22 (tgt := 29) (by decide) (fun hw => ?_) (fun hw => ?_)
    · refine gx_iconst dX5_isWorkedOutAt_29 (v := 0) (by decide) ?_
      refine gx_ireturn dX5_isWorkedOutAt_30 ?_
      exact ⟨⟨_, rfl, rfl⟩, rfl, congrArg (fun z => some (Value.int z)) (gs_bf (fun z => z.2 hw))⟩
    · refine gx_iconst dX5_isWorkedOutAt_25 (v := 1) (by decide) ?_
      refine gx_goto dX5_isWorkedOutAt_26 (tgt := 30) (by decide) ?_
      refine gx_ireturn dX5_isWorkedOutAt_30 ?_
      exact ⟨⟨_, rfl, rfl⟩, rfl, congrArg (fun z => some (Value.int z)) (gs_bt (⟨hex, hw⟩))⟩
  · refine gx_aload_n dX5_isWorkedOutAt_0 rfl ?_
    refine gx_iload_n dX5_isWorkedOutAt_1 rfl ?_
    refine gx_invV dX5_isWorkedOutAt_2 wm_X5_201 gt_X5_keeperOf wy_X5_keeperOf wl_X5_keeperOf (ci := 5) rfl rfl (gs_g5 R ) (As := [.int (nI k)]) (rest := []) rfl rfl (Nat.le_of_ble_eq_true rfl) (by decide) (cc_X5_keeperOf R W (k := k) (hk)) (fun r1 h q1 => ?_)
    obtain ⟨rfl, rfl⟩ := q1
    show gx_Ev _ _ _ _ _ [.ref (A 1 (k % σ.1 0 0 0) 0)] _ _
    refine gx_get dX5_isWorkedOutAt_5 gf_X5_153 (gs_g1 R (gw_g W hk9)) (v := .ref (A 13 (k % σ.1 0 0 0) 0)) (rfl) ?_
    refine gx_aload_n dX5_isWorkedOutAt_8 rfl ?_
    refine gx_get dX5_isWorkedOutAt_9 gf_X5_85 (gs_g3 R ho) (v := .int (nI o)) (rfl) ?_
    refine gr_13N dX5_isWorkedOutAt_12 R (gw_g W hk9) (q := o) rfl (by omega) (by decide) hex ?_
    refine gx_astore_nN dX5_isWorkedOutAt_13 (by decide) rfl (L' := [some (.ref (A 5 0 0)), some (.ref (A 3 o 0)), some (.int (nI k)), some (.null)]) rfl ?_
    refine gx_aload_nN dX5_isWorkedOutAt_14 rfl ?_
    refine gx_ifnullN dX5_isWorkedOutAt_15 (tgt := 29) (by decide) ?_
    refine gx_iconst dX5_isWorkedOutAt_29 (v := 0) (by decide) ?_
    refine gx_ireturn dX5_isWorkedOutAt_30 ?_
    exact ⟨⟨_, rfl, rfl⟩, rfl, congrArg (fun z => some (Value.int z)) (gs_bf (fun z => hex z.1))⟩
set_option maxHeartbeats 4000000 in
theorem cc_X5_finalTimeOf {S : gx_S} {h : gx_H} {σ : gs_T} {A : gs_A} (R : gs_R h σ A) (W : gw_W σ) {o : Nat} (hoc : o < σ.1 1 0 0) : gx_Cn S gm_X5_finalTimeOf 2 [.ref (A 5 0 0), .ref (A 3 o 0)] h (fun r h' => h' = h ∧ r = some (.int (sc_ft σ o))) := by
  refine gx_Cn.of gt_X5_finalTimeOf (by simp [Value.category]) (Nat.le_of_ble_eq_true rfl) ?_
  show gx_Ev S gm_X5_finalTimeOf 2 0 [some (.ref (A 5 0 0)), some (.ref (A 3 o 0)), none, none] [] h _
  have hn4 := gw_n4 W
  have hn2 := gw_n2 W
  have hcn := gw_cnt W
  have ho := gw_o W hoc
  have hka := Nat.mod_lt (σ.1 13 o 0) (show 0 < σ.1 0 0 0 by omega)
  have hkb := Nat.mod_lt (σ.1 14 o 0) (show 0 < σ.1 0 0 0 by omega)
  by_cases hxa : σ.1 6 (σ.1 13 o 0 % σ.1 0 0 0) o = 1
  · by_cases hxb : σ.1 6 (σ.1 14 o 0 % σ.1 0 0 0) o = 1
    · refine gx_aload_n dX5_finalTimeOf_0 rfl ?_
      refine gx_aload_n dX5_finalTimeOf_1 rfl ?_
      refine gx_get dX5_finalTimeOf_2 gf_X5_198 (gs_g3 R ho) (v := .int (nI (σ.1 13 o 0))) (rfl) ?_
      refine gx_invV dX5_finalTimeOf_5 wm_X5_201 gt_X5_keeperOf wy_X5_keeperOf wl_X5_keeperOf (ci := 5) rfl rfl (gs_g5 R ) (As := [.int (nI (σ.1 13 o 0))]) (rest := []) rfl rfl (Nat.le_of_ble_eq_true rfl) (by decide) (cc_X5_keeperOf R W (k := σ.1 13 o 0) (gw_a W o)) (fun r1 h q1 => ?_)
      obtain ⟨rfl, rfl⟩ := q1
      show gx_Ev _ _ _ _ _ [.ref (A 1 (σ.1 13 o 0 % σ.1 0 0 0) 0)] _ _
      refine gx_get dX5_finalTimeOf_8 gf_X5_153 (gs_g1 R (gw_g W hka)) (v := .ref (A 13 (σ.1 13 o 0 % σ.1 0 0 0) 0)) (rfl) ?_
      refine gx_aload_n dX5_finalTimeOf_11 rfl ?_
      refine gx_get dX5_finalTimeOf_12 gf_X5_85 (gs_g3 R ho) (v := .int (nI o)) (rfl) ?_
      refine gr_13 dX5_finalTimeOf_15 R (gw_g W hka) (q := o) rfl (by omega) (by decide) hxa ?_
      refine gx_astore_n dX5_finalTimeOf_16 (by decide) rfl (L' := [some (.ref (A 5 0 0)), some (.ref (A 3 o 0)), some (.ref (A 4 (σ.1 13 o 0 % σ.1 0 0 0) o)), none]) rfl ?_
      refine gx_aload_n dX5_finalTimeOf_17 rfl ?_
      refine gx_aload_n dX5_finalTimeOf_18 rfl ?_
      refine gx_get dX5_finalTimeOf_19 gf_X5_205 (gs_g3 R ho) (v := .int (nI (σ.1 14 o 0))) (rfl) ?_
      refine gx_invV dX5_finalTimeOf_22 wm_X5_201 gt_X5_keeperOf wy_X5_keeperOf wl_X5_keeperOf (ci := 5) rfl rfl (gs_g5 R ) (As := [.int (nI (σ.1 14 o 0))]) (rest := []) rfl rfl (Nat.le_of_ble_eq_true rfl) (by decide) (cc_X5_keeperOf R W (k := σ.1 14 o 0) (gw_b W o)) (fun r1 h q1 => ?_)
      obtain ⟨rfl, rfl⟩ := q1
      show gx_Ev _ _ _ _ _ [.ref (A 1 (σ.1 14 o 0 % σ.1 0 0 0) 0)] _ _
      refine gx_get dX5_finalTimeOf_25 gf_X5_153 (gs_g1 R (gw_g W hkb)) (v := .ref (A 13 (σ.1 14 o 0 % σ.1 0 0 0) 0)) (rfl) ?_
      refine gx_aload_n dX5_finalTimeOf_28 rfl ?_
      refine gx_get dX5_finalTimeOf_29 gf_X5_85 (gs_g3 R ho) (v := .int (nI o)) (rfl) ?_
      refine gr_13 dX5_finalTimeOf_32 R (gw_g W hkb) (q := o) rfl (by omega) (by decide) hxb ?_
      refine gx_astore_n dX5_finalTimeOf_33 (by decide) rfl (L' := [some (.ref (A 5 0 0)), some (.ref (A 3 o 0)), some (.ref (A 4 (σ.1 13 o 0 % σ.1 0 0 0) o)), some (.ref (A 4 (σ.1 14 o 0 % σ.1 0 0 0) o))]) rfl ?_
      refine gx_aload_n dX5_finalTimeOf_34 rfl ?_
      refine gx_ifnull dX5_finalTimeOf_35 ?_
      refine gx_aload_n dX5_finalTimeOf_38 rfl ?_
      refine gx_ifnonnull dX5_finalTimeOf_39 (tgt := 44) (by decide) ?_
      refine gx_aload_n dX5_finalTimeOf_44 rfl ?_
      refine gx_get dX5_finalTimeOf_45 gf_X5_159 (gs_g4 R hxa) (v := .int (σ.2.1 10 (σ.1 13 o 0 % σ.1 0 0 0) o)) (rfl) ?_
      refine gx_iconst dX5_finalTimeOf_48 (v := (-1)) (by decide) ?_
      refine gx_icmp_eq dX5_finalTimeOf_49 (tgt := 59) (by decide) (fun hf => ?_) (fun hf => ?_)
      · refine gx_aload_n dX5_finalTimeOf_59 rfl ?_
        refine gx_get dX5_finalTimeOf_60 gf_X5_159 (gs_g4 R hxb) (v := .int (σ.2.1 10 (σ.1 14 o 0 % σ.1 0 0 0) o)) (rfl) ?_
        refine gx_ireturn dX5_finalTimeOf_63 ?_
        exact ⟨⟨_, rfl, rfl⟩, rfl, by rw [sc_ft, if_pos ⟨hxa, hxb⟩]; simp [hf]⟩
      · refine gx_aload_n dX5_finalTimeOf_52 rfl ?_
        refine gx_get dX5_finalTimeOf_53 gf_X5_159 (gs_g4 R hxa) (v := .int (σ.2.1 10 (σ.1 13 o 0 % σ.1 0 0 0) o)) (rfl) ?_
        refine gx_goto dX5_finalTimeOf_56 (tgt := 63) (by decide) ?_
        refine gx_ireturn dX5_finalTimeOf_63 ?_
        exact ⟨⟨_, rfl, rfl⟩, rfl, by rw [sc_ft, if_pos ⟨hxa, hxb⟩]; simp [hf]⟩
    · refine gx_aload_n dX5_finalTimeOf_0 rfl ?_
      refine gx_aload_n dX5_finalTimeOf_1 rfl ?_
      refine gx_get dX5_finalTimeOf_2 gf_X5_198 (gs_g3 R ho) (v := .int (nI (σ.1 13 o 0))) (rfl) ?_
      refine gx_invV dX5_finalTimeOf_5 wm_X5_201 gt_X5_keeperOf wy_X5_keeperOf wl_X5_keeperOf (ci := 5) rfl rfl (gs_g5 R ) (As := [.int (nI (σ.1 13 o 0))]) (rest := []) rfl rfl (Nat.le_of_ble_eq_true rfl) (by decide) (cc_X5_keeperOf R W (k := σ.1 13 o 0) (gw_a W o)) (fun r1 h q1 => ?_)
      obtain ⟨rfl, rfl⟩ := q1
      show gx_Ev _ _ _ _ _ [.ref (A 1 (σ.1 13 o 0 % σ.1 0 0 0) 0)] _ _
      refine gx_get dX5_finalTimeOf_8 gf_X5_153 (gs_g1 R (gw_g W hka)) (v := .ref (A 13 (σ.1 13 o 0 % σ.1 0 0 0) 0)) (rfl) ?_
      refine gx_aload_n dX5_finalTimeOf_11 rfl ?_
      refine gx_get dX5_finalTimeOf_12 gf_X5_85 (gs_g3 R ho) (v := .int (nI o)) (rfl) ?_
      refine gr_13 dX5_finalTimeOf_15 R (gw_g W hka) (q := o) rfl (by omega) (by decide) hxa ?_
      refine gx_astore_n dX5_finalTimeOf_16 (by decide) rfl (L' := [some (.ref (A 5 0 0)), some (.ref (A 3 o 0)), some (.ref (A 4 (σ.1 13 o 0 % σ.1 0 0 0) o)), none]) rfl ?_
      refine gx_aload_n dX5_finalTimeOf_17 rfl ?_
      refine gx_aload_n dX5_finalTimeOf_18 rfl ?_
      refine gx_get dX5_finalTimeOf_19 gf_X5_205 (gs_g3 R ho) (v := .int (nI (σ.1 14 o 0))) (rfl) ?_
      refine gx_invV dX5_finalTimeOf_22 wm_X5_201 gt_X5_keeperOf wy_X5_keeperOf wl_X5_keeperOf (ci := 5) rfl rfl (gs_g5 R ) (As := [.int (nI (σ.1 14 o 0))]) (rest := []) rfl rfl (Nat.le_of_ble_eq_true rfl) (by decide) (cc_X5_keeperOf R W (k := σ.1 14 o 0) (gw_b W o)) (fun r1 h q1 => ?_)
      obtain ⟨rfl, rfl⟩ := q1
      show gx_Ev _ _ _ _ _ [.ref (A 1 (σ.1 14 o 0 % σ.1 0 0 0) 0)] _ _
      refine gx_get dX5_finalTimeOf_25 gf_X5_153 (gs_g1 R (gw_g W hkb)) (v := .ref (A 13 (σ.1 14 o 0 % σ.1 0 0 0) 0)) (rfl) ?_
      refine gx_aload_n dX5_finalTimeOf_28 rfl ?_
      refine gx_get dX5_finalTimeOf_29 gf_X5_85 (gs_g3 R ho) (v := .int (nI o)) (rfl) ?_
      refine gr_13N dX5_finalTimeOf_32 R (gw_g W hkb) (q := o) rfl (by omega) (by decide) hxb ?_
      refine gx_astore_nN dX5_finalTimeOf_33 (by decide) rfl (L' := [some (.ref (A 5 0 0)), some (.ref (A 3 o 0)), some (.ref (A 4 (σ.1 13 o 0 % σ.1 0 0 0) o)), some (.null)]) rfl ?_
      refine gx_aload_n dX5_finalTimeOf_34 rfl ?_
      refine gx_ifnull dX5_finalTimeOf_35 ?_
      refine gx_aload_nN dX5_finalTimeOf_38 rfl ?_
      refine gx_ifnonnullN dX5_finalTimeOf_39 ?_
      refine gx_iconst dX5_finalTimeOf_42 (v := (-1)) (by decide) ?_
      refine gx_ireturn dX5_finalTimeOf_43 ?_
      exact ⟨⟨_, rfl, rfl⟩, rfl, by rw [sc_ft, if_neg (fun z => hxb z.2)]⟩
  · by_cases hxb : σ.1 6 (σ.1 14 o 0 % σ.1 0 0 0) o = 1
    · refine gx_aload_n dX5_finalTimeOf_0 rfl ?_
      refine gx_aload_n dX5_finalTimeOf_1 rfl ?_
      refine gx_get dX5_finalTimeOf_2 gf_X5_198 (gs_g3 R ho) (v := .int (nI (σ.1 13 o 0))) (rfl) ?_
      refine gx_invV dX5_finalTimeOf_5 wm_X5_201 gt_X5_keeperOf wy_X5_keeperOf wl_X5_keeperOf (ci := 5) rfl rfl (gs_g5 R ) (As := [.int (nI (σ.1 13 o 0))]) (rest := []) rfl rfl (Nat.le_of_ble_eq_true rfl) (by decide) (cc_X5_keeperOf R W (k := σ.1 13 o 0) (gw_a W o)) (fun r1 h q1 => ?_)
      obtain ⟨rfl, rfl⟩ := q1
      show gx_Ev _ _ _ _ _ [.ref (A 1 (σ.1 13 o 0 % σ.1 0 0 0) 0)] _ _
      refine gx_get dX5_finalTimeOf_8 gf_X5_153 (gs_g1 R (gw_g W hka)) (v := .ref (A 13 (σ.1 13 o 0 % σ.1 0 0 0) 0)) (rfl) ?_
      refine gx_aload_n dX5_finalTimeOf_11 rfl ?_
      refine gx_get dX5_finalTimeOf_12 gf_X5_85 (gs_g3 R ho) (v := .int (nI o)) (rfl) ?_
      refine gr_13N dX5_finalTimeOf_15 R (gw_g W hka) (q := o) rfl (by omega) (by decide) hxa ?_
      refine gx_astore_nN dX5_finalTimeOf_16 (by decide) rfl (L' := [some (.ref (A 5 0 0)), some (.ref (A 3 o 0)), some (.null), none]) rfl ?_
      refine gx_aload_n dX5_finalTimeOf_17 rfl ?_
      refine gx_aload_n dX5_finalTimeOf_18 rfl ?_
      refine gx_get dX5_finalTimeOf_19 gf_X5_205 (gs_g3 R ho) (v := .int (nI (σ.1 14 o 0))) (rfl) ?_
      refine gx_invV dX5_finalTimeOf_22 wm_X5_201 gt_X5_keeperOf wy_X5_keeperOf wl_X5_keeperOf (ci := 5) rfl rfl (gs_g5 R ) (As := [.int (nI (σ.1 14 o 0))]) (rest := []) rfl rfl (Nat.le_of_ble_eq_true rfl) (by decide) (cc_X5_keeperOf R W (k := σ.1 14 o 0) (gw_b W o)) (fun r1 h q1 => ?_)
      obtain ⟨rfl, rfl⟩ := q1
      show gx_Ev _ _ _ _ _ [.ref (A 1 (σ.1 14 o 0 % σ.1 0 0 0) 0)] _ _
      refine gx_get dX5_finalTimeOf_25 gf_X5_153 (gs_g1 R (gw_g W hkb)) (v := .ref (A 13 (σ.1 14 o 0 % σ.1 0 0 0) 0)) (rfl) ?_
      refine gx_aload_n dX5_finalTimeOf_28 rfl ?_
      refine gx_get dX5_finalTimeOf_29 gf_X5_85 (gs_g3 R ho) (v := .int (nI o)) (rfl) ?_
      refine gr_13 dX5_finalTimeOf_32 R (gw_g W hkb) (q := o) rfl (by omega) (by decide) hxb ?_
      refine gx_astore_n dX5_finalTimeOf_33 (by decide) rfl (L' := [some (.ref (A 5 0 0)), some (.ref (A 3 o 0)), some (.null), some (.ref (A 4 (σ.1 14 o 0 % σ.1 0 0 0) o))]) rfl ?_
      refine gx_aload_nN dX5_finalTimeOf_34 rfl ?_
      refine gx_ifnullN dX5_finalTimeOf_35 (tgt := 42) (by decide) ?_
      refine gx_iconst dX5_finalTimeOf_42 (v := (-1)) (by decide) ?_
      refine gx_ireturn dX5_finalTimeOf_43 ?_
      exact ⟨⟨_, rfl, rfl⟩, rfl, by rw [sc_ft, if_neg (fun z => hxa z.1)]⟩
    · refine gx_aload_n dX5_finalTimeOf_0 rfl ?_
      refine gx_aload_n dX5_finalTimeOf_1 rfl ?_
      refine gx_get dX5_finalTimeOf_2 gf_X5_198 (gs_g3 R ho) (v := .int (nI (σ.1 13 o 0))) (rfl) ?_
      refine gx_invV dX5_finalTimeOf_5 wm_X5_201 gt_X5_keeperOf wy_X5_keeperOf wl_X5_keeperOf (ci := 5) rfl rfl (gs_g5 R ) (As := [.int (nI (σ.1 13 o 0))]) (rest := []) rfl rfl (Nat.le_of_ble_eq_true rfl) (by decide) (cc_X5_keeperOf R W (k := σ.1 13 o 0) (gw_a W o)) (fun r1 h q1 => ?_)
      obtain ⟨rfl, rfl⟩ := q1
      show gx_Ev _ _ _ _ _ [.ref (A 1 (σ.1 13 o 0 % σ.1 0 0 0) 0)] _ _
      refine gx_get dX5_finalTimeOf_8 gf_X5_153 (gs_g1 R (gw_g W hka)) (v := .ref (A 13 (σ.1 13 o 0 % σ.1 0 0 0) 0)) (rfl) ?_
      refine gx_aload_n dX5_finalTimeOf_11 rfl ?_
      refine gx_get dX5_finalTimeOf_12 gf_X5_85 (gs_g3 R ho) (v := .int (nI o)) (rfl) ?_
      refine gr_13N dX5_finalTimeOf_15 R (gw_g W hka) (q := o) rfl (by omega) (by decide) hxa ?_
      refine gx_astore_nN dX5_finalTimeOf_16 (by decide) rfl (L' := [some (.ref (A 5 0 0)), some (.ref (A 3 o 0)), some (.null), none]) rfl ?_
      refine gx_aload_n dX5_finalTimeOf_17 rfl ?_
      refine gx_aload_n dX5_finalTimeOf_18 rfl ?_
      refine gx_get dX5_finalTimeOf_19 gf_X5_205 (gs_g3 R ho) (v := .int (nI (σ.1 14 o 0))) (rfl) ?_
      refine gx_invV dX5_finalTimeOf_22 wm_X5_201 gt_X5_keeperOf wy_X5_keeperOf wl_X5_keeperOf (ci := 5) rfl rfl (gs_g5 R ) (As := [.int (nI (σ.1 14 o 0))]) (rest := []) rfl rfl (Nat.le_of_ble_eq_true rfl) (by decide) (cc_X5_keeperOf R W (k := σ.1 14 o 0) (gw_b W o)) (fun r1 h q1 => ?_)
      obtain ⟨rfl, rfl⟩ := q1
      show gx_Ev _ _ _ _ _ [.ref (A 1 (σ.1 14 o 0 % σ.1 0 0 0) 0)] _ _
      refine gx_get dX5_finalTimeOf_25 gf_X5_153 (gs_g1 R (gw_g W hkb)) (v := .ref (A 13 (σ.1 14 o 0 % σ.1 0 0 0) 0)) (rfl) ?_
      refine gx_aload_n dX5_finalTimeOf_28 rfl ?_
      refine gx_get dX5_finalTimeOf_29 gf_X5_85 (gs_g3 R ho) (v := .int (nI o)) (rfl) ?_
      refine gr_13N dX5_finalTimeOf_32 R (gw_g W hkb) (q := o) rfl (by omega) (by decide) hxb ?_
      refine gx_astore_nN dX5_finalTimeOf_33 (by decide) rfl (L' := [some (.ref (A 5 0 0)), some (.ref (A 3 o 0)), some (.null), some (.null)]) rfl ?_
      refine gx_aload_nN dX5_finalTimeOf_34 rfl ?_
      refine gx_ifnullN dX5_finalTimeOf_35 (tgt := 42) (by decide) ?_
      refine gx_iconst dX5_finalTimeOf_42 (v := (-1)) (by decide) ?_
      refine gx_ireturn dX5_finalTimeOf_43 ?_
      exact ⟨⟨_, rfl, rfl⟩, rfl, by rw [sc_ft, if_neg (fun z => hxa z.1)]⟩
set_option maxHeartbeats 4000000 in
theorem cc_X5_isBehind {S : gx_S} {h : gx_H} {σ : gs_T} {A : gs_A} (R : gs_R h σ A) (W : gw_W σ) {p q : Nat} (hpc : p < σ.1 1 0 0) (hqc : q < σ.1 1 0 0) : gx_Cn S gm_X5_isBehind 3 [.ref (A 5 0 0), .ref (A 3 p 0), .ref (A 3 q 0)] h (fun r h' => h' = h ∧ r = some (.int (gs_bi (sc_bh σ p q)))) := by
  refine gx_Cn.of gt_X5_isBehind (by simp [Value.category]) (Nat.le_of_ble_eq_true rfl) ?_
  show gx_Ev S gm_X5_isBehind 3 0 [some (.ref (A 5 0 0)), some (.ref (A 3 p 0)), some (.ref (A 3 q 0)), none] [] h _
  have hn4 := gw_n4 W
  have hn2 := gw_n2 W
  have hcn := gw_cnt W
  refine gx_aload_n dX5_isBehind_0 rfl ?_
  refine gx_aload_n dX5_isBehind_1 rfl ?_
  refine gx_invV dX5_isBehind_2 wm_X5_282 gt_X5_finalTimeOf wy_X5_finalTimeOf wl_X5_finalTimeOf (ci := 5) rfl rfl (gs_g5 R ) (As := [.ref (A 3 p 0)]) (rest := []) rfl rfl (Nat.le_of_ble_eq_true rfl) (by decide) (cc_X5_finalTimeOf R W (o := p) hpc) (fun r1 h q1 => ?_)
  obtain ⟨rfl, rfl⟩ := q1
  show gx_Ev _ _ _ _ _ [.int (sc_ft σ p)] _ _
  refine gx_aload_n dX5_isBehind_5 rfl ?_
  refine gx_aload_n dX5_isBehind_6 rfl ?_
  refine gx_invV dX5_isBehind_7 wm_X5_282 gt_X5_finalTimeOf wy_X5_finalTimeOf wl_X5_finalTimeOf (ci := 5) rfl rfl (gs_g5 R ) (As := [.ref (A 3 q 0)]) (rest := [.int (sc_ft σ p)]) rfl rfl (Nat.le_of_ble_eq_true rfl) (by decide) (cc_X5_finalTimeOf R W (o := q) hqc) (fun r1 h q1 => ?_)
  obtain ⟨rfl, rfl⟩ := q1
  show gx_Ev _ _ _ _ _ [.int (sc_ft σ q), .int (sc_ft σ p)] _ _
  refine gx_invS dX5_isBehind_10 wm_X5_294 gt_J6_compare_7cf53 ws_J6_compare_7cf53 (As := [.int (sc_ft σ p), .int (sc_ft σ q)]) (rest := []) rfl rfl (Nat.le_of_ble_eq_true rfl) (by decide) (cc_J6_compare_7cf53 (sc_ft σ p) (sc_ft σ q)) (fun r1 h q1 => ?_)
  obtain ⟨rfl, rfl⟩ := q1
  show gx_Ev _ _ _ _ _ [.int (gs_cp (sc_ft σ p) (sc_ft σ q))] _ _
  refine gx_istore_n dX5_isBehind_13 (by decide) rfl (L' := [some (.ref (A 5 0 0)), some (.ref (A 3 p 0)), some (.ref (A 3 q 0)), some (.int (gs_cp (sc_ft σ p) (sc_ft σ q)))]) rfl ?_
  refine gx_iload_n dX5_isBehind_14 rfl ?_
  refine gx_if_gt dX5_isBehind_15 (tgt := 33) (by decide) (fun hc1 => ?_) (fun hc1 => ?_)
  · refine gx_iconst dX5_isBehind_33 (v := 1) (by decide) ?_
    refine gx_goto dX5_isBehind_34 (tgt := 38) (by decide) ?_
    refine gx_ireturn dX5_isBehind_38 ?_
    exact ⟨⟨_, rfl, rfl⟩, rfl, congrArg (fun z => some (Value.int z)) (gs_bt (Or.inl (gs_cp_gt.mp hc1)))⟩
  · refine gx_iload_n dX5_isBehind_18 rfl ?_
    refine gx_if_ne dX5_isBehind_19 (tgt := 37) (by decide) (fun hc2 => ?_) (fun hc2 => ?_)
    · refine gx_iconst dX5_isBehind_37 (v := 0) (by decide) ?_
      refine gx_ireturn dX5_isBehind_38 ?_
      exact ⟨⟨_, rfl, rfl⟩, rfl, congrArg (fun z => some (Value.int z)) (gs_bf (fun z => z.elim (fun e => hc1 (gs_cp_gt.mpr e)) (fun e => hc2 (gs_cp_eq.mpr e.1))))⟩
    · refine gx_aload_n dX5_isBehind_22 rfl ?_
      refine gx_get dX5_isBehind_23 gf_X5_85 (gs_g3 R (gw_o W hpc)) (v := .int (nI p)) (rfl) ?_
      refine gx_aload_n dX5_isBehind_26 rfl ?_
      refine gx_get dX5_isBehind_27 gf_X5_85 (gs_g3 R (gw_o W hqc)) (v := .int (nI q)) (rfl) ?_
      refine gx_icmp_le dX5_isBehind_30 (tgt := 37) (by decide) (fun hc3 => ?_) (fun hc3 => ?_)
      · refine gx_iconst dX5_isBehind_37 (v := 0) (by decide) ?_
        refine gx_ireturn dX5_isBehind_38 ?_
        exact ⟨⟨_, rfl, rfl⟩, rfl, congrArg (fun z => some (Value.int z)) (gs_bf (fun z => z.elim (fun e => hc1 (gs_cp_gt.mpr e)) (fun e => nI_ge e.2 (by omega) hc3)))⟩
      · refine gx_iconst dX5_isBehind_33 (v := 1) (by decide) ?_
        refine gx_goto dX5_isBehind_34 (tgt := 38) (by decide) ?_
        refine gx_ireturn dX5_isBehind_38 ?_
        exact ⟨⟨_, rfl, rfl⟩, rfl, congrArg (fun z => some (Value.int z)) (gs_bt (Or.inr ⟨gs_cp_eq.mp hc2, Nat.lt_of_not_le (fun z => hc3 (nI_le z (by omega)))⟩))⟩
def sc_ca (σ : gs_T) (m q : Nat) (c : Int32) : Int32 := match m with
  | 0 => c
  | m + 1 => sc_ca σ m (q + 1) (if σ.2.1 3 q 0 = 0 then c else c + 1)
def sc_cw (σ : gs_T) (m q : Nat) (c : Int32) : Int32 := match m with
  | 0 => c
  | m + 1 => sc_cw σ m (q + 1) (if sc_iw σ q (σ.1 13 q 0) ∧ sc_iw σ q (σ.1 14 q 0) then c + 1 else c)
set_option maxHeartbeats 4000000 in
theorem cl_sc_ca {S : gx_S} {h : gx_H} {σ : gs_T} {A : gs_A} (R : gs_R h σ A) (W : gw_W σ) : ∀ (m q : Nat) (c : Int32), q + m = σ.1 1 0 0 → gx_Ev S gm_X5_countAnswered 1 4 [some (.ref (A 5 0 0)), some (.int c), some (.int (nI q))] [] h (fun r h' => gx_rt (some .int) r ∧ h' = h ∧ r = some (.int (sc_ca σ m q c))) := by
  intro m
  induction m with
  | zero =>
    intro q c hq
    have hn4 := gw_n4 W
    have hn2 := gw_n2 W
    have hcn := gw_cnt W
    refine gx_iload_n dX5_countAnswered_4 rfl ?_
    refine gx_aload_n dX5_countAnswered_5 rfl ?_
    refine gx_get dX5_countAnswered_6 gf_X5_59 (gs_g5 R ) (v := .int (nI (σ.1 1 0 0))) (rfl) ?_
    refine gx_icmp_ge dX5_countAnswered_9 (tgt := 33) (by decide) (fun hc1 => ?_) (fun hc1 => absurd hc1 (fun z => z (nI_le (by omega) (by omega))))
    refine gx_iload_n dX5_countAnswered_33 rfl ?_
    refine gx_ireturn dX5_countAnswered_34 ?_
    exact ⟨⟨_, rfl, rfl⟩, rfl, rfl⟩
  | succ m ih =>
    intro q c hq
    have hn4 := gw_n4 W
    have hn2 := gw_n2 W
    have hcn := gw_cnt W
    have hqc : q < σ.1 1 0 0 := by omega
    refine gx_iload_n dX5_countAnswered_4 rfl ?_
    refine gx_aload_n dX5_countAnswered_5 rfl ?_
    refine gx_get dX5_countAnswered_6 gf_X5_59 (gs_g5 R ) (v := .int (nI (σ.1 1 0 0))) (rfl) ?_
    refine gx_icmp_ge dX5_countAnswered_9 (tgt := 33) (by decide) (fun hc1 => absurd hc1 (nI_ge (by omega) (by omega))) (fun hc1 => ?_)
    refine gx_aload_n dX5_countAnswered_12 rfl ?_
    refine gx_get dX5_countAnswered_13 gf_X5_18 (gs_g5 R ) (v := .ref (A 10 0 0)) (rfl) ?_
    refine gx_iload_n dX5_countAnswered_16 rfl ?_
    refine gr_10 dX5_countAnswered_17 R (q := q) rfl (by omega) (by decide) (gw_o W hqc) ?_
    refine gx_get dX5_countAnswered_18 gf_X5_150 (gs_g3 R (gw_o W hqc)) (v := .int (σ.2.1 3 q 0)) (rfl) ?_
    refine gx_if_eq dX5_countAnswered_21 (tgt := 27) (by decide) (fun hd => ?_) (fun hd => ?_)
    · refine gx_iinc dX5_countAnswered_27 rfl (v := nI (q + 1)) (nI_1 _) (by decide) rfl (L' := [some (.ref (A 5 0 0)), some (.int c), some (.int (nI (q + 1)))]) rfl ?_
      refine gx_goto dX5_countAnswered_30 (tgt := 4) (by decide) ?_
      rw [show sc_ca σ (m + 1) q c = sc_ca σ m (q + 1) (c) from by rw [sc_ca]; simp [hd]]
      exact ih (q + 1) (c) (by omega)
    · refine gx_iinc dX5_countAnswered_24 rfl (v := c + 1) (rfl) (by decide) rfl (L' := [some (.ref (A 5 0 0)), some (.int (c + 1)), some (.int (nI q))]) rfl ?_
      refine gx_iinc dX5_countAnswered_27 rfl (v := nI (q + 1)) (nI_1 _) (by decide) rfl (L' := [some (.ref (A 5 0 0)), some (.int (c + 1)), some (.int (nI (q + 1)))]) rfl ?_
      refine gx_goto dX5_countAnswered_30 (tgt := 4) (by decide) ?_
      rw [show sc_ca σ (m + 1) q c = sc_ca σ m (q + 1) (c + 1) from by rw [sc_ca]; simp [hd]]
      exact ih (q + 1) (c + 1) (by omega)
set_option maxHeartbeats 4000000 in
theorem cc_X5_countAnswered {S : gx_S} {h : gx_H} {σ : gs_T} {A : gs_A} (R : gs_R h σ A) (W : gw_W σ) : gx_Cn S gm_X5_countAnswered 1 [.ref (A 5 0 0)] h (fun r h' => h' = h ∧ r = some (.int (sc_ca σ (σ.1 1 0 0) 0 0))) := by
  refine gx_Cn.of gt_X5_countAnswered (by simp [Value.category]) (Nat.le_of_ble_eq_true rfl) ?_
  show gx_Ev S gm_X5_countAnswered 1 0 [some (.ref (A 5 0 0)), none, none] [] h _
  refine gx_iconst dX5_countAnswered_0 (v := 0) (by decide) ?_
  refine gx_istore_n dX5_countAnswered_1 (by decide) rfl (L' := [some (.ref (A 5 0 0)), some (.int 0), none]) rfl ?_
  refine gx_iconst dX5_countAnswered_2 (v := 0) (by decide) ?_
  refine gx_istore_n dX5_countAnswered_3 (by decide) rfl (L' := [some (.ref (A 5 0 0)), some (.int 0), some (.int 0)]) rfl ?_
  exact cl_sc_ca R W _ 0 0 (Nat.zero_add _)
set_option maxHeartbeats 4000000 in
theorem cl_sc_cw {S : gx_S} {h : gx_H} {σ : gs_T} {A : gs_A} (R : gs_R h σ A) (W : gw_W σ) : ∀ (m q : Nat) (c : Int32), q + m = σ.1 1 0 0 → gx_Ev S gm_X5_countWorkedOutByAll 3 4 [some (.ref (A 5 0 0)), some (.int c), some (.int (nI q))] [] h (fun r h' => gx_rt (some .int) r ∧ h' = h ∧ r = some (.int (sc_cw σ m q c))) := by
  intro m
  induction m with
  | zero =>
    intro q c hq
    have hn4 := gw_n4 W
    have hn2 := gw_n2 W
    have hcn := gw_cnt W
    refine gx_iload_n dX5_countWorkedOutByAll_4 rfl ?_
    refine gx_aload_n dX5_countWorkedOutByAll_5 rfl ?_
    refine gx_get dX5_countWorkedOutByAll_6 gf_X5_59 (gs_g5 R ) (v := .int (nI (σ.1 1 0 0))) (rfl) ?_
    refine gx_icmp_ge dX5_countWorkedOutByAll_9 (tgt := 65) (by decide) (fun hc1 => ?_) (fun hc1 => absurd hc1 (fun z => z (nI_le (by omega) (by omega))))
    refine gx_iload_n dX5_countWorkedOutByAll_65 rfl ?_
    refine gx_ireturn dX5_countWorkedOutByAll_66 ?_
    exact ⟨⟨_, rfl, rfl⟩, rfl, rfl⟩
  | succ m ih =>
    intro q c hq
    have hn4 := gw_n4 W
    have hn2 := gw_n2 W
    have hcn := gw_cnt W
    have hqc : q < σ.1 1 0 0 := by omega
    refine gx_iload_n dX5_countWorkedOutByAll_4 rfl ?_
    refine gx_aload_n dX5_countWorkedOutByAll_5 rfl ?_
    refine gx_get dX5_countWorkedOutByAll_6 gf_X5_59 (gs_g5 R ) (v := .int (nI (σ.1 1 0 0))) (rfl) ?_
    refine gx_icmp_ge dX5_countWorkedOutByAll_9 (tgt := 65) (by decide) (fun hc1 => absurd hc1 (nI_ge (by omega) (by omega))) (fun hc1 => ?_)
    refine gx_aload_n dX5_countWorkedOutByAll_12 rfl ?_
    refine gx_aload_n dX5_countWorkedOutByAll_13 rfl ?_
    refine gx_get dX5_countWorkedOutByAll_14 gf_X5_18 (gs_g5 R ) (v := .ref (A 10 0 0)) (rfl) ?_
    refine gx_iload_n dX5_countWorkedOutByAll_17 rfl ?_
    refine gr_10 dX5_countWorkedOutByAll_18 R (q := q) rfl (by omega) (by decide) (gw_o W hqc) ?_
    refine gx_aload_n dX5_countWorkedOutByAll_19 rfl ?_
    refine gx_get dX5_countWorkedOutByAll_20 gf_X5_18 (gs_g5 R ) (v := .ref (A 10 0 0)) (rfl) ?_
    refine gx_iload_n dX5_countWorkedOutByAll_23 rfl ?_
    refine gr_10 dX5_countWorkedOutByAll_24 R (q := q) rfl (by omega) (by decide) (gw_o W hqc) ?_
    refine gx_get dX5_countWorkedOutByAll_25 gf_X5_198 (gs_g3 R (gw_o W hqc)) (v := .int (nI (σ.1 13 q 0))) (rfl) ?_
    refine gx_invV dX5_countWorkedOutByAll_28 wm_X5_274 gt_X5_isWorkedOutAt wy_X5_isWorkedOutAt wl_X5_isWorkedOutAt (ci := 5) rfl rfl (gs_g5 R ) (As := [.ref (A 3 q 0), .int (nI (σ.1 13 q 0))]) (rest := []) rfl rfl (Nat.le_of_ble_eq_true rfl) (by decide) (cc_X5_isWorkedOutAt R W (o := q) (k := σ.1 13 q 0) (hqc) (gw_a W q)) (fun r1 h q1 => ?_)
    obtain ⟨rfl, rfl⟩ := q1
    show gx_Ev _ _ _ _ _ [.int (gs_bi (sc_iw σ q (σ.1 13 q 0)))] _ _
    refine gx_if_eq dX5_countWorkedOutByAll_31 (tgt := 59) (by decide) (fun h1 => ?_) (fun h1 => ?_)
    · have h1 := gs_b0 h1
      refine gx_iinc dX5_countWorkedOutByAll_59 rfl (v := nI (q + 1)) (nI_1 _) (by decide) rfl (L' := [some (.ref (A 5 0 0)), some (.int c), some (.int (nI (q + 1)))]) rfl ?_
      refine gx_goto dX5_countWorkedOutByAll_62 (tgt := 4) (by decide) ?_
      rw [show sc_cw σ (m + 1) q c = sc_cw σ m (q + 1) (c) from by rw [sc_cw, if_neg (fun z => h1 z.1)]]
      exact ih (q + 1) (c) (by omega)
    · have h1 := gs_b1 h1
      refine gx_aload_n dX5_countWorkedOutByAll_34 rfl ?_
      refine gx_aload_n dX5_countWorkedOutByAll_35 rfl ?_
      refine gx_get dX5_countWorkedOutByAll_36 gf_X5_18 (gs_g5 R ) (v := .ref (A 10 0 0)) (rfl) ?_
      refine gx_iload_n dX5_countWorkedOutByAll_39 rfl ?_
      refine gr_10 dX5_countWorkedOutByAll_40 R (q := q) rfl (by omega) (by decide) (gw_o W hqc) ?_
      refine gx_aload_n dX5_countWorkedOutByAll_41 rfl ?_
      refine gx_get dX5_countWorkedOutByAll_42 gf_X5_18 (gs_g5 R ) (v := .ref (A 10 0 0)) (rfl) ?_
      refine gx_iload_n dX5_countWorkedOutByAll_45 rfl ?_
      refine gr_10 dX5_countWorkedOutByAll_46 R (q := q) rfl (by omega) (by decide) (gw_o W hqc) ?_
      refine gx_get dX5_countWorkedOutByAll_47 gf_X5_205 (gs_g3 R (gw_o W hqc)) (v := .int (nI (σ.1 14 q 0))) (rfl) ?_
      refine gx_invV dX5_countWorkedOutByAll_50 wm_X5_274 gt_X5_isWorkedOutAt wy_X5_isWorkedOutAt wl_X5_isWorkedOutAt (ci := 5) rfl rfl (gs_g5 R ) (As := [.ref (A 3 q 0), .int (nI (σ.1 14 q 0))]) (rest := []) rfl rfl (Nat.le_of_ble_eq_true rfl) (by decide) (cc_X5_isWorkedOutAt R W (o := q) (k := σ.1 14 q 0) (hqc) (gw_b W q)) (fun r1 h q1 => ?_)
      obtain ⟨rfl, rfl⟩ := q1
      show gx_Ev _ _ _ _ _ [.int (gs_bi (sc_iw σ q (σ.1 14 q 0)))] _ _
      refine gx_if_eq dX5_countWorkedOutByAll_53 (tgt := 59) (by decide) (fun h2 => ?_) (fun h2 => ?_)
      · have h2 := gs_b0 h2
        refine gx_iinc dX5_countWorkedOutByAll_59 rfl (v := nI (q + 1)) (nI_1 _) (by decide) rfl (L' := [some (.ref (A 5 0 0)), some (.int c), some (.int (nI (q + 1)))]) rfl ?_
        refine gx_goto dX5_countWorkedOutByAll_62 (tgt := 4) (by decide) ?_
        rw [show sc_cw σ (m + 1) q c = sc_cw σ m (q + 1) (c) from by rw [sc_cw, if_neg (fun z => h2 z.2)]]
        exact ih (q + 1) (c) (by omega)
      · have h2 := gs_b1 h2
        refine gx_iinc dX5_countWorkedOutByAll_56 rfl (v := c + 1) (rfl) (by decide) rfl (L' := [some (.ref (A 5 0 0)), some (.int (c + 1)), some (.int (nI q))]) rfl ?_
        refine gx_iinc dX5_countWorkedOutByAll_59 rfl (v := nI (q + 1)) (nI_1 _) (by decide) rfl (L' := [some (.ref (A 5 0 0)), some (.int (c + 1)), some (.int (nI (q + 1)))]) rfl ?_
        refine gx_goto dX5_countWorkedOutByAll_62 (tgt := 4) (by decide) ?_
        rw [show sc_cw σ (m + 1) q c = sc_cw σ m (q + 1) (c + 1) from by rw [sc_cw, if_pos ⟨h1, h2⟩]]
        exact ih (q + 1) (c + 1) (by omega)
set_option maxHeartbeats 4000000 in
theorem cc_X5_countWorkedOutByAll {S : gx_S} {h : gx_H} {σ : gs_T} {A : gs_A} (R : gs_R h σ A) (W : gw_W σ) : gx_Cn S gm_X5_countWorkedOutByAll 3 [.ref (A 5 0 0)] h (fun r h' => h' = h ∧ r = some (.int (sc_cw σ (σ.1 1 0 0) 0 0))) := by
  refine gx_Cn.of gt_X5_countWorkedOutByAll (by simp [Value.category]) (Nat.le_of_ble_eq_true rfl) ?_
  show gx_Ev S gm_X5_countWorkedOutByAll 3 0 [some (.ref (A 5 0 0)), none, none] [] h _
  refine gx_iconst dX5_countWorkedOutByAll_0 (v := 0) (by decide) ?_
  refine gx_istore_n dX5_countWorkedOutByAll_1 (by decide) rfl (L' := [some (.ref (A 5 0 0)), some (.int 0), none]) rfl ?_
  refine gx_iconst dX5_countWorkedOutByAll_2 (v := 0) (by decide) ?_
  refine gx_istore_n dX5_countWorkedOutByAll_3 (by decide) rfl (L' := [some (.ref (A 5 0 0)), some (.int 0), some (.int 0)]) rfl ?_
  exact cl_sc_cw R W _ 0 0 (Nat.zero_add _)
def sc_count (σ : gs_T) (x : Int32) : Int32 := if x = 0 then nI (σ.1 0 0 0) else if x = 1 then nI (σ.1 1 0 0) else if x = 2 then σ.2.1 5 0 0 else if x = 3 then sc_ca σ (σ.1 1 0 0) 0 0 else if x = 4 then sc_cw σ (σ.1 1 0 0) 0 0 else -1
set_option maxHeartbeats 4000000 in
theorem cc_X5_count {S : gx_S} {h : gx_H} {σ : gs_T} {A : gs_A} (R : gs_R h σ A) (W : gw_W σ) (x : Int32) : gx_Cn S gm_X5_count 4 [.ref (A 5 0 0), .int x] h (fun r h' => h' = h ∧ r = some (.int (sc_count σ x))) := by
  refine gx_Cn.of gt_X5_count (by simp [Value.category]) (Nat.le_of_ble_eq_true rfl) ?_
  show gx_Ev S gm_X5_count 4 0 [some (.ref (A 5 0 0)), some (.int x)] [] h _
  refine gx_iload_n dX5_count_0 rfl ?_
  by_cases t0 : x = 0
  · subst t0
    refine gx_tableIn dX5_count_1 (by decide) (by decide) (off := 35) (by decide) (tgt := 36) (by decide) ?_
    refine gx_aload_n dX5_count_36 rfl ?_
    refine gx_get dX5_count_37 gf_X5_46 (gs_g5 R ) (v := .ref (A 7 0 0)) (rfl) ?_
    refine gx_alen dX5_count_40 (by decide) (gs_g7 R) (v := nI (σ.1 0 0 0)) rfl ?_
    refine gx_ireturn dX5_count_41 ?_
    exact ⟨⟨_, rfl, rfl⟩, rfl, by simp [sc_count, ]⟩
  · by_cases t1 : x = 1
    · subst t1
      refine gx_tableIn dX5_count_1 (by decide) (by decide) (off := 41) (by decide) (tgt := 42) (by decide) ?_
      refine gx_aload_n dX5_count_42 rfl ?_
      refine gx_get dX5_count_43 gf_X5_59 (gs_g5 R ) (v := .int (nI (σ.1 1 0 0))) (rfl) ?_
      refine gx_ireturn dX5_count_46 ?_
      exact ⟨⟨_, rfl, rfl⟩, rfl, by simp [sc_count, ]⟩
    · by_cases t2 : x = 2
      · subst t2
        refine gx_tableIn dX5_count_1 (by decide) (by decide) (off := 46) (by decide) (tgt := 47) (by decide) ?_
        refine gx_aload_n dX5_count_47 rfl ?_
        refine gx_get dX5_count_48 gf_X5_184 (gs_g5 R ) (v := .int (σ.2.1 5 0 0)) (rfl) ?_
        refine gx_ireturn dX5_count_51 ?_
        exact ⟨⟨_, rfl, rfl⟩, rfl, by simp [sc_count, ]⟩
      · by_cases t3 : x = 3
        · subst t3
          refine gx_tableIn dX5_count_1 (by decide) (by decide) (off := 51) (by decide) (tgt := 52) (by decide) ?_
          refine gx_aload_n dX5_count_52 rfl ?_
          refine gx_invV dX5_count_53 wm_X5_187 gt_X5_countAnswered wy_X5_countAnswered wl_X5_countAnswered (ci := 5) rfl rfl (gs_g5 R ) (As := []) (rest := []) rfl rfl (Nat.le_of_ble_eq_true rfl) (by decide) (cc_X5_countAnswered R W) (fun r1 h q1 => ?_)
          obtain ⟨rfl, rfl⟩ := q1
          show gx_Ev _ _ _ _ _ [.int (sc_ca σ (σ.1 1 0 0) 0 0)] _ _
          refine gx_ireturn dX5_count_56 ?_
          exact ⟨⟨_, rfl, rfl⟩, rfl, by simp [sc_count, ]⟩
        · by_cases t4 : x = 4
          · subst t4
            refine gx_tableIn dX5_count_1 (by decide) (by decide) (off := 56) (by decide) (tgt := 57) (by decide) ?_
            refine gx_aload_n dX5_count_57 rfl ?_
            refine gx_invV dX5_count_58 wm_X5_191 gt_X5_countWorkedOutByAll wy_X5_countWorkedOutByAll wl_X5_countWorkedOutByAll (ci := 5) rfl rfl (gs_g5 R ) (As := []) (rest := []) rfl rfl (Nat.le_of_ble_eq_true rfl) (by decide) (cc_X5_countWorkedOutByAll R W) (fun r1 h q1 => ?_)
            obtain ⟨rfl, rfl⟩ := q1
            show gx_Ev _ _ _ _ _ [.int (sc_cw σ (σ.1 1 0 0) 0 0)] _ _
            refine gx_ireturn dX5_count_61 ?_
            exact ⟨⟨_, rfl, rfl⟩, rfl, by simp [sc_count, ]⟩
          · refine gx_tableOut dX5_count_1 (gs_swout (N := 4) (by decide) (fun k hk => by rcases (by omega : k = 0 ∨ k = 1 ∨ k = 2 ∨ k = 3 ∨ k = 4) with rfl | rfl | rfl | rfl | rfl <;> first | exact t0 | exact t1 | exact t2 | exact t3 | exact t4)) (tgt := 62) (by decide) ?_
            refine gx_iconst dX5_count_62 (v := (-1)) (by decide) ?_
            refine gx_ireturn dX5_count_63 ?_
            exact ⟨⟨_, rfl, rfl⟩, rfl, by simp [sc_count, t0, t1, t2, t3, t4]⟩
