/-! the class: agree -/
abbrev sc_nac (σ : gs_T) (l q x : Nat) : Prop := ¬ σ.2.1 3 q 0 = 0 ∧ (l = 0 ∨ sc_bh σ q (l - 1)) ∧ (x = 0 ∨ sc_bh σ (x - 1) q)
def sc_na (σ : gs_T) (l m : Nat) : Nat := match m with
  | 0 => 0
  | m + 1 => if sc_nac σ l m (sc_na σ l m) then m + 1 else sc_na σ l m
theorem sc_na_le (σ : gs_T) (l m : Nat) : sc_na σ l m ≤ m := by
  induction m with
  | zero => exact Nat.le_refl _
  | succ m ih =>
    rw [sc_na]
    split
    · exact Nat.le_refl _
    · omega
set_option maxHeartbeats 4000000 in
theorem cl_na0 {S : gx_S} {h : gx_H} {σ : gs_T} {A : gs_A} (R : gs_R h σ A) (W : gw_W σ) {Q : Option Value → gx_H → Prop} (K : ∀ w4 w5, gx_Ev S gm_X5_nextAnswered 4 77 [some (.ref (A 5 0 0)), some (.null), (some (va_rf (gs_op (sc_na σ 0 (σ.1 1 0 0)) (fun z => A 3 z 0)))), some (.int (nI (σ.1 1 0 0))), w4, w5] [] h Q) : ∀ (m q : Nat) (w4 w5 : Option Value), q + m = σ.1 1 0 0 → gx_Ev S gm_X5_nextAnswered 4 4 [some (.ref (A 5 0 0)), some (.null), (some (va_rf (gs_op (sc_na σ 0 q) (fun z => A 3 z 0)))), some (.int (nI q)), w4, w5] [] h Q := by
  intro m
  induction m with
  | zero =>
    intro q w4 w5 hq
    have hn4 := gw_n4 W
    have hn2 := gw_n2 W
    have hcn := gw_cnt W
    have hq0 : q = σ.1 1 0 0 := by omega
    refine gx_iload_n dX5_nextAnswered_4 rfl ?_
    refine gx_aload_n dX5_nextAnswered_5 rfl ?_
    refine gx_get dX5_nextAnswered_6 gf_X5_59 (gs_g5 R ) (v := .int (nI (σ.1 1 0 0))) (rfl) ?_
    refine gx_icmp_ge dX5_nextAnswered_9 (tgt := 77) (by decide) (fun hc1 => ?_) (fun hc1 => absurd hc1 (fun z => z (nI_le (by omega) (by omega))))
    have k := K w4 w5
    rw [← hq0] at k
    exact k
  | succ m ih =>
    intro q w4 w5 hq
    have hn4 := gw_n4 W
    have hn2 := gw_n2 W
    have hcn := gw_cnt W
    have hqc : q < σ.1 1 0 0 := by omega
    have hle := sc_na_le σ 0 q
    rcases gs_zs (sc_na σ 0 q) with he | ⟨e, he⟩
    · rw [he]
      show gx_Ev S gm_X5_nextAnswered 4 4 [some (.ref (A 5 0 0)), some (.null), some (.null), some (.int (nI q)), w4, w5] [] h _
      refine gx_iload_n dX5_nextAnswered_4 rfl ?_
      refine gx_aload_n dX5_nextAnswered_5 rfl ?_
      refine gx_get dX5_nextAnswered_6 gf_X5_59 (gs_g5 R ) (v := .int (nI (σ.1 1 0 0))) (rfl) ?_
      refine gx_icmp_ge dX5_nextAnswered_9 (tgt := 77) (by decide) (fun hc1 => absurd hc1 (nI_ge (by omega) (by omega))) (fun hc1 => ?_)
      refine gx_aload_n dX5_nextAnswered_12 rfl ?_
      refine gx_get dX5_nextAnswered_13 gf_X5_18 (gs_g5 R ) (v := .ref (A 10 0 0)) (rfl) ?_
      refine gx_iload_n dX5_nextAnswered_16 rfl ?_
      refine gr_10 dX5_nextAnswered_17 R (q := q) rfl (by omega) (by decide) (gw_o W hqc) ?_
      refine gx_astore dX5_nextAnswered_18 (by decide) rfl (L' := [some (.ref (A 5 0 0)), some (.null), some (.null), some (.int (nI q)), some (.ref (A 3 q 0)), w5]) rfl ?_
      refine gx_aload dX5_nextAnswered_20 rfl ?_
      refine gx_get dX5_nextAnswered_22 gf_X5_150 (gs_g3 R (gw_o W hqc)) (v := .int (σ.2.1 3 q 0)) (rfl) ?_
      refine gx_if_eq dX5_nextAnswered_25 (tgt := 46) (by decide) (fun h1 => ?_) (fun h1 => ?_)
      · refine gx_iconst dX5_nextAnswered_46 (v := 0) (by decide) ?_
        refine gx_istore dX5_nextAnswered_47 (by decide) rfl (L' := [some (.ref (A 5 0 0)), some (.null), some (.null), some (.int (nI q)), some (.ref (A 3 q 0)), some (.int 0)]) rfl ?_
        refine gx_iload dX5_nextAnswered_49 rfl ?_
        refine gx_if_eq dX5_nextAnswered_51 (tgt := 71) (by decide) (fun hc3 => ?_) (fun hc3 => absurd hc3 (by decide))
        refine gx_iinc dX5_nextAnswered_71 rfl (v := nI (q + 1)) (nI_1 _) (by decide) rfl (L' := [some (.ref (A 5 0 0)), some (.null), some (.null), some (.int (nI (q + 1))), some (.ref (A 3 q 0)), some (.int 0)]) rfl ?_
        refine gx_goto dX5_nextAnswered_74 (tgt := 4) (by decide) ?_
        have e9 : sc_na σ 0 (q + 1) = 0 := by rw [sc_na, if_neg (fun z => z.1 h1), he]
        have k := ih (q + 1) (some (.ref (A 3 q 0))) (some (.int 0)) (by omega)
        rw [e9] at k
        exact k
      · refine gx_aload_nN dX5_nextAnswered_28 rfl ?_
        refine gx_ifnullN dX5_nextAnswered_29 (tgt := 42) (by decide) ?_
        refine gx_iconst dX5_nextAnswered_42 (v := 1) (by decide) ?_
        refine gx_goto dX5_nextAnswered_43 (tgt := 47) (by decide) ?_
        refine gx_istore dX5_nextAnswered_47 (by decide) rfl (L' := [some (.ref (A 5 0 0)), some (.null), some (.null), some (.int (nI q)), some (.ref (A 3 q 0)), some (.int 1)]) rfl ?_
        refine gx_iload dX5_nextAnswered_49 rfl ?_
        refine gx_if_eq dX5_nextAnswered_51 (tgt := 71) (by decide) (fun hc4 => absurd hc4 (by decide)) (fun hc4 => ?_)
        refine gx_aload_nN dX5_nextAnswered_54 rfl ?_
        refine gx_ifnullN dX5_nextAnswered_55 (tgt := 68) (by decide) ?_
        refine gx_aload dX5_nextAnswered_68 rfl ?_
        refine gx_astore_n dX5_nextAnswered_70 (by decide) rfl (L' := [some (.ref (A 5 0 0)), some (.null), some (.ref (A 3 q 0)), some (.int (nI q)), some (.ref (A 3 q 0)), some (.int 1)]) rfl ?_
        refine gx_iinc dX5_nextAnswered_71 rfl (v := nI (q + 1)) (nI_1 _) (by decide) rfl (L' := [some (.ref (A 5 0 0)), some (.null), some (.ref (A 3 q 0)), some (.int (nI (q + 1))), some (.ref (A 3 q 0)), some (.int 1)]) rfl ?_
        refine gx_goto dX5_nextAnswered_74 (tgt := 4) (by decide) ?_
        have e9 : sc_na σ 0 (q + 1) = q + 1 := by rw [sc_na, if_pos ⟨h1, Or.inl rfl, Or.inl he⟩]
        have k := ih (q + 1) (some (.ref (A 3 q 0))) (some (.int 1)) (by omega)
        rw [e9] at k
        exact k
    · rw [he]
      show gx_Ev S gm_X5_nextAnswered 4 4 [some (.ref (A 5 0 0)), some (.null), some (.ref (A 3 e 0)), some (.int (nI q)), w4, w5] [] h _
      have hec : e < σ.1 1 0 0 := by omega
      refine gx_iload_n dX5_nextAnswered_4 rfl ?_
      refine gx_aload_n dX5_nextAnswered_5 rfl ?_
      refine gx_get dX5_nextAnswered_6 gf_X5_59 (gs_g5 R ) (v := .int (nI (σ.1 1 0 0))) (rfl) ?_
      refine gx_icmp_ge dX5_nextAnswered_9 (tgt := 77) (by decide) (fun hc1 => absurd hc1 (nI_ge (by omega) (by omega))) (fun hc1 => ?_)
      refine gx_aload_n dX5_nextAnswered_12 rfl ?_
      refine gx_get dX5_nextAnswered_13 gf_X5_18 (gs_g5 R ) (v := .ref (A 10 0 0)) (rfl) ?_
      refine gx_iload_n dX5_nextAnswered_16 rfl ?_
      refine gr_10 dX5_nextAnswered_17 R (q := q) rfl (by omega) (by decide) (gw_o W hqc) ?_
      refine gx_astore dX5_nextAnswered_18 (by decide) rfl (L' := [some (.ref (A 5 0 0)), some (.null), some (.ref (A 3 e 0)), some (.int (nI q)), some (.ref (A 3 q 0)), w5]) rfl ?_
      refine gx_aload dX5_nextAnswered_20 rfl ?_
      refine gx_get dX5_nextAnswered_22 gf_X5_150 (gs_g3 R (gw_o W hqc)) (v := .int (σ.2.1 3 q 0)) (rfl) ?_
      refine gx_if_eq dX5_nextAnswered_25 (tgt := 46) (by decide) (fun h1 => ?_) (fun h1 => ?_)
      · refine gx_iconst dX5_nextAnswered_46 (v := 0) (by decide) ?_
        refine gx_istore dX5_nextAnswered_47 (by decide) rfl (L' := [some (.ref (A 5 0 0)), some (.null), some (.ref (A 3 e 0)), some (.int (nI q)), some (.ref (A 3 q 0)), some (.int 0)]) rfl ?_
        refine gx_iload dX5_nextAnswered_49 rfl ?_
        refine gx_if_eq dX5_nextAnswered_51 (tgt := 71) (by decide) (fun hc3 => ?_) (fun hc3 => absurd hc3 (by decide))
        refine gx_iinc dX5_nextAnswered_71 rfl (v := nI (q + 1)) (nI_1 _) (by decide) rfl (L' := [some (.ref (A 5 0 0)), some (.null), some (.ref (A 3 e 0)), some (.int (nI (q + 1))), some (.ref (A 3 q 0)), some (.int 0)]) rfl ?_
        refine gx_goto dX5_nextAnswered_74 (tgt := 4) (by decide) ?_
        have e9 : sc_na σ 0 (q + 1) = e + 1 := by rw [sc_na, if_neg (fun z => z.1 h1), he]
        have k := ih (q + 1) (some (.ref (A 3 q 0))) (some (.int 0)) (by omega)
        rw [e9] at k
        exact k
      · refine gx_aload_nN dX5_nextAnswered_28 rfl ?_
        refine gx_ifnullN dX5_nextAnswered_29 (tgt := 42) (by decide) ?_
        refine gx_iconst dX5_nextAnswered_42 (v := 1) (by decide) ?_
        refine gx_goto dX5_nextAnswered_43 (tgt := 47) (by decide) ?_
        refine gx_istore dX5_nextAnswered_47 (by decide) rfl (L' := [some (.ref (A 5 0 0)), some (.null), some (.ref (A 3 e 0)), some (.int (nI q)), some (.ref (A 3 q 0)), some (.int 1)]) rfl ?_
        refine gx_iload dX5_nextAnswered_49 rfl ?_
        refine gx_if_eq dX5_nextAnswered_51 (tgt := 71) (by decide) (fun hc4 => absurd hc4 (by decide)) (fun hc4 => ?_)
        refine gx_aload_n dX5_nextAnswered_54 rfl ?_
        refine gx_ifnull dX5_nextAnswered_55 ?_
        refine gx_aload_n dX5_nextAnswered_58 rfl ?_
        refine gx_aload_n dX5_nextAnswered_59 rfl ?_
        refine gx_aload dX5_nextAnswered_60 rfl ?_
        refine gx_invV dX5_nextAnswered_62 wm_X5_278 gt_X5_isBehind wy_X5_isBehind wl_X5_isBehind (ci := 5) rfl rfl (gs_g5 R ) (As := [.ref (A 3 e 0), .ref (A 3 q 0)]) (rest := []) rfl rfl (Nat.le_of_ble_eq_true rfl) (by decide) (cc_X5_isBehind R W (p := e) (q := q) hec hqc) (fun r1 h q1 => ?_)
        obtain ⟨rfl, rfl⟩ := q1
        show gx_Ev _ _ _ _ _ [.int (gs_bi (sc_bh σ e q))] _ _
        refine gx_if_eq dX5_nextAnswered_65 (tgt := 71) (by decide) (fun h3 => ?_) (fun h3 => ?_)
        · have h3 := gs_b0 h3
          refine gx_iinc dX5_nextAnswered_71 rfl (v := nI (q + 1)) (nI_1 _) (by decide) rfl (L' := [some (.ref (A 5 0 0)), some (.null), some (.ref (A 3 e 0)), some (.int (nI (q + 1))), some (.ref (A 3 q 0)), some (.int 1)]) rfl ?_
          refine gx_goto dX5_nextAnswered_74 (tgt := 4) (by decide) ?_
          have e9 : sc_na σ 0 (q + 1) = e + 1 := by rw [sc_na, if_neg (fun z => z.2.2.elim (fun z => by rw [he] at z; omega) (fun z => h3 (by rw [he] at z; exact z))), he]
          have k := ih (q + 1) (some (.ref (A 3 q 0))) (some (.int 1)) (by omega)
          rw [e9] at k
          exact k
        · have h3 := gs_b1 h3
          refine gx_aload dX5_nextAnswered_68 rfl ?_
          refine gx_astore_n dX5_nextAnswered_70 (by decide) rfl (L' := [some (.ref (A 5 0 0)), some (.null), some (.ref (A 3 q 0)), some (.int (nI q)), some (.ref (A 3 q 0)), some (.int 1)]) rfl ?_
          refine gx_iinc dX5_nextAnswered_71 rfl (v := nI (q + 1)) (nI_1 _) (by decide) rfl (L' := [some (.ref (A 5 0 0)), some (.null), some (.ref (A 3 q 0)), some (.int (nI (q + 1))), some (.ref (A 3 q 0)), some (.int 1)]) rfl ?_
          refine gx_goto dX5_nextAnswered_74 (tgt := 4) (by decide) ?_
          have e9 : sc_na σ 0 (q + 1) = q + 1 := by rw [sc_na, if_pos ⟨h1, Or.inl rfl, Or.inr (by rw [he]; exact h3)⟩]
          have k := ih (q + 1) (some (.ref (A 3 q 0))) (some (.int 1)) (by omega)
          rw [e9] at k
          exact k
set_option maxHeartbeats 4000000 in
theorem cc_X5_nextAnswered0 {S : gx_S} {h : gx_H} {σ : gs_T} {A : gs_A} (R : gs_R h σ A) (W : gw_W σ) : gx_Cn S gm_X5_nextAnswered 4 [.ref (A 5 0 0), .null] h (fun r h' => h' = h ∧ r = some (va_rf (gs_op (sc_na σ 0 (σ.1 1 0 0)) (fun z => A 3 z 0)))) := by
  refine gx_Cn.of gt_X5_nextAnswered (by simp [Value.category]) (Nat.le_of_ble_eq_true rfl) ?_
  show gx_Ev S gm_X5_nextAnswered 4 0 [some (.ref (A 5 0 0)), some (.null), none, none, none, none] [] h _
  refine gx_null dX5_nextAnswered_0 ?_
  refine gx_astore_nN dX5_nextAnswered_1 (by decide) rfl (L' := [some (.ref (A 5 0 0)), some (.null), some (.null), none, none, none]) rfl ?_
  refine gx_iconst dX5_nextAnswered_2 (v := 0) (by decide) ?_
  refine gx_istore_n dX5_nextAnswered_3 (by decide) rfl (L' := [some (.ref (A 5 0 0)), some (.null), some (.null), some (.int 0), none, none]) rfl ?_
  refine cl_na0 R W (fun w4 w5 => ?_) _ 0 none none (Nat.zero_add _)
  rcases gs_zs (sc_na σ 0 (σ.1 1 0 0)) with he | ⟨e, he⟩
  · rw [he]
    show gx_Ev S gm_X5_nextAnswered 4 77 [some (.ref (A 5 0 0)), some (.null), some (.null), some (.int (nI (σ.1 1 0 0))), w4, w5] [] h _
    refine gx_aload_nN dX5_nextAnswered_77 rfl ?_
    refine gx_areturnN dX5_nextAnswered_78 ?_
    exact ⟨⟨_, rfl⟩, rfl, rfl⟩
  · rw [he]
    show gx_Ev S gm_X5_nextAnswered 4 77 [some (.ref (A 5 0 0)), some (.null), some (.ref (A 3 e 0)), some (.int (nI (σ.1 1 0 0))), w4, w5] [] h _
    refine gx_aload_n dX5_nextAnswered_77 rfl ?_
    refine gx_areturn dX5_nextAnswered_78 ?_
    exact ⟨⟨_, rfl⟩, rfl, rfl⟩
set_option maxHeartbeats 4000000 in
theorem cl_na1 {S : gx_S} {h : gx_H} {σ : gs_T} {A : gs_A} (R : gs_R h σ A) (W : gw_W σ) {l : Nat} (hlc : l < σ.1 1 0 0) {Q : Option Value → gx_H → Prop} (K : ∀ w4 w5, gx_Ev S gm_X5_nextAnswered 4 77 [some (.ref (A 5 0 0)), some (.ref (A 3 l 0)), (some (va_rf (gs_op (sc_na σ (l + 1) (σ.1 1 0 0)) (fun z => A 3 z 0)))), some (.int (nI (σ.1 1 0 0))), w4, w5] [] h Q) : ∀ (m q : Nat) (w4 w5 : Option Value), q + m = σ.1 1 0 0 → gx_Ev S gm_X5_nextAnswered 4 4 [some (.ref (A 5 0 0)), some (.ref (A 3 l 0)), (some (va_rf (gs_op (sc_na σ (l + 1) q) (fun z => A 3 z 0)))), some (.int (nI q)), w4, w5] [] h Q := by
  intro m
  induction m with
  | zero =>
    intro q w4 w5 hq
    have hn4 := gw_n4 W
    have hn2 := gw_n2 W
    have hcn := gw_cnt W
    have hq0 : q = σ.1 1 0 0 := by omega
    refine gx_iload_n dX5_nextAnswered_4 rfl ?_
    refine gx_aload_n dX5_nextAnswered_5 rfl ?_
    refine gx_get dX5_nextAnswered_6 gf_X5_59 (gs_g5 R ) (v := .int (nI (σ.1 1 0 0))) (rfl) ?_
    refine gx_icmp_ge dX5_nextAnswered_9 (tgt := 77) (by decide) (fun hc1 => ?_) (fun hc1 => absurd hc1 (fun z => z (nI_le (by omega) (by omega))))
    have k := K w4 w5
    rw [← hq0] at k
    exact k
  | succ m ih =>
    intro q w4 w5 hq
    have hn4 := gw_n4 W
    have hn2 := gw_n2 W
    have hcn := gw_cnt W
    have hqc : q < σ.1 1 0 0 := by omega
    have hle := sc_na_le σ (l + 1) q
    rcases gs_zs (sc_na σ (l + 1) q) with he | ⟨e, he⟩
    · rw [he]
      show gx_Ev S gm_X5_nextAnswered 4 4 [some (.ref (A 5 0 0)), some (.ref (A 3 l 0)), some (.null), some (.int (nI q)), w4, w5] [] h _
      refine gx_iload_n dX5_nextAnswered_4 rfl ?_
      refine gx_aload_n dX5_nextAnswered_5 rfl ?_
      refine gx_get dX5_nextAnswered_6 gf_X5_59 (gs_g5 R ) (v := .int (nI (σ.1 1 0 0))) (rfl) ?_
      refine gx_icmp_ge dX5_nextAnswered_9 (tgt := 77) (by decide) (fun hc1 => absurd hc1 (nI_ge (by omega) (by omega))) (fun hc1 => ?_)
      refine gx_aload_n dX5_nextAnswered_12 rfl ?_
      refine gx_get dX5_nextAnswered_13 gf_X5_18 (gs_g5 R ) (v := .ref (A 10 0 0)) (rfl) ?_
      refine gx_iload_n dX5_nextAnswered_16 rfl ?_
      refine gr_10 dX5_nextAnswered_17 R (q := q) rfl (by omega) (by decide) (gw_o W hqc) ?_
      refine gx_astore dX5_nextAnswered_18 (by decide) rfl (L' := [some (.ref (A 5 0 0)), some (.ref (A 3 l 0)), some (.null), some (.int (nI q)), some (.ref (A 3 q 0)), w5]) rfl ?_
      refine gx_aload dX5_nextAnswered_20 rfl ?_
      refine gx_get dX5_nextAnswered_22 gf_X5_150 (gs_g3 R (gw_o W hqc)) (v := .int (σ.2.1 3 q 0)) (rfl) ?_
      refine gx_if_eq dX5_nextAnswered_25 (tgt := 46) (by decide) (fun h1 => ?_) (fun h1 => ?_)
      · refine gx_iconst dX5_nextAnswered_46 (v := 0) (by decide) ?_
        refine gx_istore dX5_nextAnswered_47 (by decide) rfl (L' := [some (.ref (A 5 0 0)), some (.ref (A 3 l 0)), some (.null), some (.int (nI q)), some (.ref (A 3 q 0)), some (.int 0)]) rfl ?_
        refine gx_iload dX5_nextAnswered_49 rfl ?_
        refine gx_if_eq dX5_nextAnswered_51 (tgt := 71) (by decide) (fun hc3 => ?_) (fun hc3 => absurd hc3 (by decide))
        refine gx_iinc dX5_nextAnswered_71 rfl (v := nI (q + 1)) (nI_1 _) (by decide) rfl (L' := [some (.ref (A 5 0 0)), some (.ref (A 3 l 0)), some (.null), some (.int (nI (q + 1))), some (.ref (A 3 q 0)), some (.int 0)]) rfl ?_
        refine gx_goto dX5_nextAnswered_74 (tgt := 4) (by decide) ?_
        have e9 : sc_na σ (l + 1) (q + 1) = 0 := by rw [sc_na, if_neg (fun z => z.1 h1), he]
        have k := ih (q + 1) (some (.ref (A 3 q 0))) (some (.int 0)) (by omega)
        rw [e9] at k
        exact k
      · refine gx_aload_n dX5_nextAnswered_28 rfl ?_
        refine gx_ifnull dX5_nextAnswered_29 ?_
        refine gx_aload_n dX5_nextAnswered_32 rfl ?_
        refine gx_aload dX5_nextAnswered_33 rfl ?_
        refine gx_aload_n dX5_nextAnswered_35 rfl ?_
        refine gx_invV dX5_nextAnswered_36 wm_X5_278 gt_X5_isBehind wy_X5_isBehind wl_X5_isBehind (ci := 5) rfl rfl (gs_g5 R ) (As := [.ref (A 3 q 0), .ref (A 3 l 0)]) (rest := []) rfl rfl (Nat.le_of_ble_eq_true rfl) (by decide) (cc_X5_isBehind R W (p := q) (q := l) hqc hlc) (fun r1 h q1 => ?_)
        obtain ⟨rfl, rfl⟩ := q1
        show gx_Ev _ _ _ _ _ [.int (gs_bi (sc_bh σ q l))] _ _
        refine gx_if_eq dX5_nextAnswered_39 (tgt := 46) (by decide) (fun h2 => ?_) (fun h2 => ?_)
        · have h2 := gs_b0 h2
          refine gx_iconst dX5_nextAnswered_46 (v := 0) (by decide) ?_
          refine gx_istore dX5_nextAnswered_47 (by decide) rfl (L' := [some (.ref (A 5 0 0)), some (.ref (A 3 l 0)), some (.null), some (.int (nI q)), some (.ref (A 3 q 0)), some (.int 0)]) rfl ?_
          refine gx_iload dX5_nextAnswered_49 rfl ?_
          refine gx_if_eq dX5_nextAnswered_51 (tgt := 71) (by decide) (fun hc5 => ?_) (fun hc5 => absurd hc5 (by decide))
          refine gx_iinc dX5_nextAnswered_71 rfl (v := nI (q + 1)) (nI_1 _) (by decide) rfl (L' := [some (.ref (A 5 0 0)), some (.ref (A 3 l 0)), some (.null), some (.int (nI (q + 1))), some (.ref (A 3 q 0)), some (.int 0)]) rfl ?_
          refine gx_goto dX5_nextAnswered_74 (tgt := 4) (by decide) ?_
          have e9 : sc_na σ (l + 1) (q + 1) = 0 := by rw [sc_na, if_neg (fun z => z.2.1.elim (fun z => by omega) h2), he]
          have k := ih (q + 1) (some (.ref (A 3 q 0))) (some (.int 0)) (by omega)
          rw [e9] at k
          exact k
        · have h2 := gs_b1 h2
          refine gx_iconst dX5_nextAnswered_42 (v := 1) (by decide) ?_
          refine gx_goto dX5_nextAnswered_43 (tgt := 47) (by decide) ?_
          refine gx_istore dX5_nextAnswered_47 (by decide) rfl (L' := [some (.ref (A 5 0 0)), some (.ref (A 3 l 0)), some (.null), some (.int (nI q)), some (.ref (A 3 q 0)), some (.int 1)]) rfl ?_
          refine gx_iload dX5_nextAnswered_49 rfl ?_
          refine gx_if_eq dX5_nextAnswered_51 (tgt := 71) (by decide) (fun hc6 => absurd hc6 (by decide)) (fun hc6 => ?_)
          refine gx_aload_nN dX5_nextAnswered_54 rfl ?_
          refine gx_ifnullN dX5_nextAnswered_55 (tgt := 68) (by decide) ?_
          refine gx_aload dX5_nextAnswered_68 rfl ?_
          refine gx_astore_n dX5_nextAnswered_70 (by decide) rfl (L' := [some (.ref (A 5 0 0)), some (.ref (A 3 l 0)), some (.ref (A 3 q 0)), some (.int (nI q)), some (.ref (A 3 q 0)), some (.int 1)]) rfl ?_
          refine gx_iinc dX5_nextAnswered_71 rfl (v := nI (q + 1)) (nI_1 _) (by decide) rfl (L' := [some (.ref (A 5 0 0)), some (.ref (A 3 l 0)), some (.ref (A 3 q 0)), some (.int (nI (q + 1))), some (.ref (A 3 q 0)), some (.int 1)]) rfl ?_
          refine gx_goto dX5_nextAnswered_74 (tgt := 4) (by decide) ?_
          have e9 : sc_na σ (l + 1) (q + 1) = q + 1 := by rw [sc_na, if_pos ⟨h1, Or.inr h2, Or.inl he⟩]
          have k := ih (q + 1) (some (.ref (A 3 q 0))) (some (.int 1)) (by omega)
          rw [e9] at k
          exact k
    · rw [he]
      show gx_Ev S gm_X5_nextAnswered 4 4 [some (.ref (A 5 0 0)), some (.ref (A 3 l 0)), some (.ref (A 3 e 0)), some (.int (nI q)), w4, w5] [] h _
      have hec : e < σ.1 1 0 0 := by omega
      refine gx_iload_n dX5_nextAnswered_4 rfl ?_
      refine gx_aload_n dX5_nextAnswered_5 rfl ?_
      refine gx_get dX5_nextAnswered_6 gf_X5_59 (gs_g5 R ) (v := .int (nI (σ.1 1 0 0))) (rfl) ?_
      refine gx_icmp_ge dX5_nextAnswered_9 (tgt := 77) (by decide) (fun hc1 => absurd hc1 (nI_ge (by omega) (by omega))) (fun hc1 => ?_)
      refine gx_aload_n dX5_nextAnswered_12 rfl ?_
      refine gx_get dX5_nextAnswered_13 gf_X5_18 (gs_g5 R ) (v := .ref (A 10 0 0)) (rfl) ?_
      refine gx_iload_n dX5_nextAnswered_16 rfl ?_
      refine gr_10 dX5_nextAnswered_17 R (q := q) rfl (by omega) (by decide) (gw_o W hqc) ?_
      refine gx_astore dX5_nextAnswered_18 (by decide) rfl (L' := [some (.ref (A 5 0 0)), some (.ref (A 3 l 0)), some (.ref (A 3 e 0)), some (.int (nI q)), some (.ref (A 3 q 0)), w5]) rfl ?_
      refine gx_aload dX5_nextAnswered_20 rfl ?_
      refine gx_get dX5_nextAnswered_22 gf_X5_150 (gs_g3 R (gw_o W hqc)) (v := .int (σ.2.1 3 q 0)) (rfl) ?_
      refine gx_if_eq dX5_nextAnswered_25 (tgt := 46) (by decide) (fun h1 => ?_) (fun h1 => ?_)
      · refine gx_iconst dX5_nextAnswered_46 (v := 0) (by decide) ?_
        refine gx_istore dX5_nextAnswered_47 (by decide) rfl (L' := [some (.ref (A 5 0 0)), some (.ref (A 3 l 0)), some (.ref (A 3 e 0)), some (.int (nI q)), some (.ref (A 3 q 0)), some (.int 0)]) rfl ?_
        refine gx_iload dX5_nextAnswered_49 rfl ?_
        refine gx_if_eq dX5_nextAnswered_51 (tgt := 71) (by decide) (fun hc3 => ?_) (fun hc3 => absurd hc3 (by decide))
        refine gx_iinc dX5_nextAnswered_71 rfl (v := nI (q + 1)) (nI_1 _) (by decide) rfl (L' := [some (.ref (A 5 0 0)), some (.ref (A 3 l 0)), some (.ref (A 3 e 0)), some (.int (nI (q + 1))), some (.ref (A 3 q 0)), some (.int 0)]) rfl ?_
        refine gx_goto dX5_nextAnswered_74 (tgt := 4) (by decide) ?_
        have e9 : sc_na σ (l + 1) (q + 1) = e + 1 := by rw [sc_na, if_neg (fun z => z.1 h1), he]
        have k := ih (q + 1) (some (.ref (A 3 q 0))) (some (.int 0)) (by omega)
        rw [e9] at k
        exact k
      · refine gx_aload_n dX5_nextAnswered_28 rfl ?_
        refine gx_ifnull dX5_nextAnswered_29 ?_
        refine gx_aload_n dX5_nextAnswered_32 rfl ?_
        refine gx_aload dX5_nextAnswered_33 rfl ?_
        refine gx_aload_n dX5_nextAnswered_35 rfl ?_
        refine gx_invV dX5_nextAnswered_36 wm_X5_278 gt_X5_isBehind wy_X5_isBehind wl_X5_isBehind (ci := 5) rfl rfl (gs_g5 R ) (As := [.ref (A 3 q 0), .ref (A 3 l 0)]) (rest := []) rfl rfl (Nat.le_of_ble_eq_true rfl) (by decide) (cc_X5_isBehind R W (p := q) (q := l) hqc hlc) (fun r1 h q1 => ?_)
        obtain ⟨rfl, rfl⟩ := q1
        show gx_Ev _ _ _ _ _ [.int (gs_bi (sc_bh σ q l))] _ _
        refine gx_if_eq dX5_nextAnswered_39 (tgt := 46) (by decide) (fun h2 => ?_) (fun h2 => ?_)
        · have h2 := gs_b0 h2
          refine gx_iconst dX5_nextAnswered_46 (v := 0) (by decide) ?_
          refine gx_istore dX5_nextAnswered_47 (by decide) rfl (L' := [some (.ref (A 5 0 0)), some (.ref (A 3 l 0)), some (.ref (A 3 e 0)), some (.int (nI q)), some (.ref (A 3 q 0)), some (.int 0)]) rfl ?_
          refine gx_iload dX5_nextAnswered_49 rfl ?_
          refine gx_if_eq dX5_nextAnswered_51 (tgt := 71) (by decide) (fun hc5 => ?_) (fun hc5 => absurd hc5 (by decide))
          refine gx_iinc dX5_nextAnswered_71 rfl (v := nI (q + 1)) (nI_1 _) (by decide) rfl (L' := [some (.ref (A 5 0 0)), some (.ref (A 3 l 0)), some (.ref (A 3 e 0)), some (.int (nI (q + 1))), some (.ref (A 3 q 0)), some (.int 0)]) rfl ?_
          refine gx_goto dX5_nextAnswered_74 (tgt := 4) (by decide) ?_
          have e9 : sc_na σ (l + 1) (q + 1) = e + 1 := by rw [sc_na, if_neg (fun z => z.2.1.elim (fun z => by omega) h2), he]
          have k := ih (q + 1) (some (.ref (A 3 q 0))) (some (.int 0)) (by omega)
          rw [e9] at k
          exact k
        · have h2 := gs_b1 h2
          refine gx_iconst dX5_nextAnswered_42 (v := 1) (by decide) ?_
          refine gx_goto dX5_nextAnswered_43 (tgt := 47) (by decide) ?_
          refine gx_istore dX5_nextAnswered_47 (by decide) rfl (L' := [some (.ref (A 5 0 0)), some (.ref (A 3 l 0)), some (.ref (A 3 e 0)), some (.int (nI q)), some (.ref (A 3 q 0)), some (.int 1)]) rfl ?_
          refine gx_iload dX5_nextAnswered_49 rfl ?_
          refine gx_if_eq dX5_nextAnswered_51 (tgt := 71) (by decide) (fun hc6 => absurd hc6 (by decide)) (fun hc6 => ?_)
          refine gx_aload_n dX5_nextAnswered_54 rfl ?_
          refine gx_ifnull dX5_nextAnswered_55 ?_
          refine gx_aload_n dX5_nextAnswered_58 rfl ?_
          refine gx_aload_n dX5_nextAnswered_59 rfl ?_
          refine gx_aload dX5_nextAnswered_60 rfl ?_
          refine gx_invV dX5_nextAnswered_62 wm_X5_278 gt_X5_isBehind wy_X5_isBehind wl_X5_isBehind (ci := 5) rfl rfl (gs_g5 R ) (As := [.ref (A 3 e 0), .ref (A 3 q 0)]) (rest := []) rfl rfl (Nat.le_of_ble_eq_true rfl) (by decide) (cc_X5_isBehind R W (p := e) (q := q) hec hqc) (fun r1 h q1 => ?_)
          obtain ⟨rfl, rfl⟩ := q1
          show gx_Ev _ _ _ _ _ [.int (gs_bi (sc_bh σ e q))] _ _
          refine gx_if_eq dX5_nextAnswered_65 (tgt := 71) (by decide) (fun h3 => ?_) (fun h3 => ?_)
          · have h3 := gs_b0 h3
            refine gx_iinc dX5_nextAnswered_71 rfl (v := nI (q + 1)) (nI_1 _) (by decide) rfl (L' := [some (.ref (A 5 0 0)), some (.ref (A 3 l 0)), some (.ref (A 3 e 0)), some (.int (nI (q + 1))), some (.ref (A 3 q 0)), some (.int 1)]) rfl ?_
            refine gx_goto dX5_nextAnswered_74 (tgt := 4) (by decide) ?_
            have e9 : sc_na σ (l + 1) (q + 1) = e + 1 := by rw [sc_na, if_neg (fun z => z.2.2.elim (fun z => by rw [he] at z; omega) (fun z => h3 (by rw [he] at z; exact z))), he]
            have k := ih (q + 1) (some (.ref (A 3 q 0))) (some (.int 1)) (by omega)
            rw [e9] at k
            exact k
          · have h3 := gs_b1 h3
            refine gx_aload dX5_nextAnswered_68 rfl ?_
            refine gx_astore_n dX5_nextAnswered_70 (by decide) rfl (L' := [some (.ref (A 5 0 0)), some (.ref (A 3 l 0)), some (.ref (A 3 q 0)), some (.int (nI q)), some (.ref (A 3 q 0)), some (.int 1)]) rfl ?_
            refine gx_iinc dX5_nextAnswered_71 rfl (v := nI (q + 1)) (nI_1 _) (by decide) rfl (L' := [some (.ref (A 5 0 0)), some (.ref (A 3 l 0)), some (.ref (A 3 q 0)), some (.int (nI (q + 1))), some (.ref (A 3 q 0)), some (.int 1)]) rfl ?_
            refine gx_goto dX5_nextAnswered_74 (tgt := 4) (by decide) ?_
            have e9 : sc_na σ (l + 1) (q + 1) = q + 1 := by rw [sc_na, if_pos ⟨h1, Or.inr h2, Or.inr (by rw [he]; exact h3)⟩]
            have k := ih (q + 1) (some (.ref (A 3 q 0))) (some (.int 1)) (by omega)
            rw [e9] at k
            exact k
set_option maxHeartbeats 4000000 in
theorem cc_X5_nextAnswered1 {S : gx_S} {h : gx_H} {σ : gs_T} {A : gs_A} (R : gs_R h σ A) (W : gw_W σ) {l : Nat} (hlc : l < σ.1 1 0 0) : gx_Cn S gm_X5_nextAnswered 4 [.ref (A 5 0 0), .ref (A 3 l 0)] h (fun r h' => h' = h ∧ r = some (va_rf (gs_op (sc_na σ (l + 1) (σ.1 1 0 0)) (fun z => A 3 z 0)))) := by
  refine gx_Cn.of gt_X5_nextAnswered (by simp [Value.category]) (Nat.le_of_ble_eq_true rfl) ?_
  show gx_Ev S gm_X5_nextAnswered 4 0 [some (.ref (A 5 0 0)), some (.ref (A 3 l 0)), none, none, none, none] [] h _
  refine gx_null dX5_nextAnswered_0 ?_
  refine gx_astore_nN dX5_nextAnswered_1 (by decide) rfl (L' := [some (.ref (A 5 0 0)), some (.ref (A 3 l 0)), some (.null), none, none, none]) rfl ?_
  refine gx_iconst dX5_nextAnswered_2 (v := 0) (by decide) ?_
  refine gx_istore_n dX5_nextAnswered_3 (by decide) rfl (L' := [some (.ref (A 5 0 0)), some (.ref (A 3 l 0)), some (.null), some (.int 0), none, none]) rfl ?_
  refine cl_na1 R W hlc (fun w4 w5 => ?_) _ 0 none none (Nat.zero_add _)
  rcases gs_zs (sc_na σ (l + 1) (σ.1 1 0 0)) with he | ⟨e, he⟩
  · rw [he]
    show gx_Ev S gm_X5_nextAnswered 4 77 [some (.ref (A 5 0 0)), some (.ref (A 3 l 0)), some (.null), some (.int (nI (σ.1 1 0 0))), w4, w5] [] h _
    refine gx_aload_nN dX5_nextAnswered_77 rfl ?_
    refine gx_areturnN dX5_nextAnswered_78 ?_
    exact ⟨⟨_, rfl⟩, rfl, rfl⟩
  · rw [he]
    show gx_Ev S gm_X5_nextAnswered 4 77 [some (.ref (A 5 0 0)), some (.ref (A 3 l 0)), some (.ref (A 3 e 0)), some (.int (nI (σ.1 1 0 0))), w4, w5] [] h _
    refine gx_aload_n dX5_nextAnswered_77 rfl ?_
    refine gx_areturn dX5_nextAnswered_78 ?_
    exact ⟨⟨_, rfl⟩, rfl, rfl⟩
def sc_gi (σ : gs_T) (g m j : Nat) : Bool := match m with
  | 0 => true
  | m + 1 => if sc_bh σ (σ.1 5 g (j + 1) - 1) (σ.1 5 g j - 1) then sc_gi σ g m (j + 1) else false
def sc_go (σ : gs_T) (m g : Nat) : Bool := match m with
  | 0 => true
  | m + 1 => if sc_gi σ g (σ.1 3 g 0 - 1) 0 = true then sc_go σ m (g + 1) else false
set_option maxHeartbeats 4000000 in
theorem cl_gi {S : gx_S} {h : gx_H} {σ : gs_T} {A : gs_A} (R : gs_R h σ A) (W : gw_W σ) {g : Nat} (hgn : g < σ.1 0 0 0) {Q : Option Value → gx_H → Prop} : ∀ (m j : Nat), j ≤ 40 → σ.1 3 g 0 - (j + 1) = m → (sc_gi σ g m j = true → ∀ v : Int32, gx_Ev S gm_X5_groupsTookInOrder 4 65 [some (.ref (A 5 0 0)), some (.int (nI g)), some (.ref (A 14 g 0)), some (.int v)] [] h Q) → (sc_gi σ g m j = false → Q (some (.int 0)) h) → gx_Ev S gm_X5_groupsTookInOrder 4 23 [some (.ref (A 5 0 0)), some (.int (nI g)), some (.ref (A 14 g 0)), some (.int (nI (j + 1)))] [] h Q := by
  intro m
  induction m with
  | zero =>
    intro j hj hm9 K1 K0
    have hn4 := gw_n4 W
    have hn2 := gw_n2 W
    have hcn := gw_cnt W
    have h40 := gw_tc W g
    have hg := gw_g W hgn
    refine gx_iload_n dX5_groupsTookInOrder_23 rfl ?_
    refine gx_aload_n dX5_groupsTookInOrder_24 rfl ?_
    refine gx_get dX5_groupsTookInOrder_25 gf_X5_46 (gs_g5 R ) (v := .ref (A 7 0 0)) (rfl) ?_
    refine gx_iload_n dX5_groupsTookInOrder_28 rfl ?_
    refine gr_7 dX5_groupsTookInOrder_29 R (q := g) rfl hgn (by omega) (gw_g W hgn) ?_
    refine gx_get dX5_groupsTookInOrder_30 gf_X5_134 (gs_g1 R hg) (v := .int (nI (σ.1 3 g 0))) (rfl) ?_
    refine gx_icmp_ge dX5_groupsTookInOrder_33 (tgt := 65) (by decide) (fun hc1 => ?_) (fun hc1 => absurd hc1 (fun z => z (nI_le (by omega) (by omega))))
    exact K1 rfl _
  | succ m ih =>
    intro j hj hm9 K1 K0
    have hn4 := gw_n4 W
    have hn2 := gw_n2 W
    have hcn := gw_cnt W
    have h40 := gw_tc W g
    have hg := gw_g W hgn
    obtain ⟨p, hp⟩ := gw_tn W hgn (show j + 1 < σ.1 3 g 0 by omega)
    obtain ⟨q, hq⟩ := gw_tn W hgn (show j < σ.1 3 g 0 by omega)
    have hpp := gw_tp W hp
    have hqp := gw_tp W hq
    have hpc := (gw_p W hpp).2
    have hqc := (gw_p W hqp).2
    have ep : σ.1 5 g (j + 1) - 1 = p := by omega
    have eq : σ.1 5 g j - 1 = q := by omega
    refine gx_iload_n dX5_groupsTookInOrder_23 rfl ?_
    refine gx_aload_n dX5_groupsTookInOrder_24 rfl ?_
    refine gx_get dX5_groupsTookInOrder_25 gf_X5_46 (gs_g5 R ) (v := .ref (A 7 0 0)) (rfl) ?_
    refine gx_iload_n dX5_groupsTookInOrder_28 rfl ?_
    refine gr_7 dX5_groupsTookInOrder_29 R (q := g) rfl hgn (by omega) (gw_g W hgn) ?_
    refine gx_get dX5_groupsTookInOrder_30 gf_X5_134 (gs_g1 R hg) (v := .int (nI (σ.1 3 g 0))) (rfl) ?_
    refine gx_icmp_ge dX5_groupsTookInOrder_33 (tgt := 65) (by decide) (fun hc1 => absurd hc1 (nI_ge (by omega) (by omega))) (fun hc1 => ?_)
    refine gx_aload_n dX5_groupsTookInOrder_36 rfl ?_
    refine gx_aload_n dX5_groupsTookInOrder_37 rfl ?_
    refine gx_iload_n dX5_groupsTookInOrder_38 rfl ?_
    refine gr_14 dX5_groupsTookInOrder_39 R hg (q := j + 1) (o := p) rfl (by omega) (by decide) hp ?_
    refine gx_get dX5_groupsTookInOrder_40 gf_X5_116 (gs_g4 R hpp) (v := .ref (A 3 p 0)) (rfl) ?_
    refine gx_aload_n dX5_groupsTookInOrder_43 rfl ?_
    refine gx_iload_n dX5_groupsTookInOrder_44 rfl ?_
    refine gx_iconst dX5_groupsTookInOrder_45 (v := 1) (by decide) ?_
    refine gx_isub dX5_groupsTookInOrder_46 ?_
    rw [show ((nI (j + 1)) - 1 : Int32) = nI j from nI_pred _]
    refine gr_14 dX5_groupsTookInOrder_47 R hg (q := j) (o := q) rfl (by omega) (by decide) hq ?_
    refine gx_get dX5_groupsTookInOrder_48 gf_X5_116 (gs_g4 R hqp) (v := .ref (A 3 q 0)) (rfl) ?_
    refine gx_invV dX5_groupsTookInOrder_51 wm_X5_278 gt_X5_isBehind wy_X5_isBehind wl_X5_isBehind (ci := 5) rfl rfl (gs_g5 R ) (As := [.ref (A 3 p 0), .ref (A 3 q 0)]) (rest := []) rfl rfl (Nat.le_of_ble_eq_true rfl) (by decide) (cc_X5_isBehind R W (p := p) (q := q) hpc hqc) (fun r1 h q1 => ?_)
    obtain ⟨rfl, rfl⟩ := q1
    show gx_Ev _ _ _ _ _ [.int (gs_bi (sc_bh σ p q))] _ _
    refine gx_if_ne dX5_groupsTookInOrder_54 (tgt := 59) (by decide) (fun hb => ?_) (fun hb => ?_)
    · have hb := gs_b1 hb
      refine gx_iinc dX5_groupsTookInOrder_59 rfl (v := nI (j + 1 + 1)) (nI_1 _) (by decide) rfl (L' := [some (.ref (A 5 0 0)), some (.int (nI g)), some (.ref (A 14 g 0)), some (.int (nI (j + 1 + 1)))]) rfl ?_
      refine gx_goto dX5_groupsTookInOrder_62 (tgt := 23) (by decide) ?_
      rw [sc_gi, ep, eq, if_pos hb] at K1 K0
      exact ih (j + 1) (by omega) (by omega) K1 K0
    · have hb := gs_b0 hb
      refine gx_iconst dX5_groupsTookInOrder_57 (v := 0) (by decide) ?_
      refine gx_ireturn dX5_groupsTookInOrder_58 ?_
      exact K0 (by rw [sc_gi, ep, eq, if_neg hb])
set_option maxHeartbeats 4000000 in
theorem cl_go {S : gx_S} {h : gx_H} {σ : gs_T} {A : gs_A} (R : gs_R h σ A) (W : gw_W σ) : ∀ (m g : Nat) (w2 w3 : Option Value), g + m = σ.1 0 0 0 → gx_Ev S gm_X5_groupsTookInOrder 4 2 [some (.ref (A 5 0 0)), some (.int (nI g)), w2, w3] [] h (fun r h' => gx_rt (some .boolean) r ∧ h' = h ∧ r = some (.int (gs_bi (sc_go σ m g = true)))) := by
  intro m
  induction m with
  | zero =>
    intro g w2 w3 hgm
    have hn4 := gw_n4 W
    have hn2 := gw_n2 W
    have hcn := gw_cnt W
    refine gx_iload_n dX5_groupsTookInOrder_2 rfl ?_
    refine gx_aload_n dX5_groupsTookInOrder_3 rfl ?_
    refine gx_get dX5_groupsTookInOrder_4 gf_X5_46 (gs_g5 R ) (v := .ref (A 7 0 0)) (rfl) ?_
    refine gx_alen dX5_groupsTookInOrder_7 (by decide) (gs_g7 R) (v := nI (σ.1 0 0 0)) rfl ?_
    refine gx_icmp_ge dX5_groupsTookInOrder_8 (tgt := 71) (by decide) (fun hc1 => ?_) (fun hc1 => absurd hc1 (fun z => z (nI_le (by omega) (by omega))))
    refine gx_iconst dX5_groupsTookInOrder_71 (v := 1) (by decide) ?_
    refine gx_ireturn dX5_groupsTookInOrder_72 ?_
    exact ⟨⟨_, rfl, rfl⟩, rfl, congrArg (fun z => some (Value.int z)) (gs_bt rfl)⟩
  | succ m ih =>
    intro g w2 w3 hgm
    have hn4 := gw_n4 W
    have hn2 := gw_n2 W
    have hcn := gw_cnt W
    have hgn : g < σ.1 0 0 0 := by omega
    have hg := gw_g W hgn
    refine gx_iload_n dX5_groupsTookInOrder_2 rfl ?_
    refine gx_aload_n dX5_groupsTookInOrder_3 rfl ?_
    refine gx_get dX5_groupsTookInOrder_4 gf_X5_46 (gs_g5 R ) (v := .ref (A 7 0 0)) (rfl) ?_
    refine gx_alen dX5_groupsTookInOrder_7 (by decide) (gs_g7 R) (v := nI (σ.1 0 0 0)) rfl ?_
    refine gx_icmp_ge dX5_groupsTookInOrder_8 (tgt := 71) (by decide) (fun hc1 => absurd hc1 (nI_ge (by omega) (by omega))) (fun hc1 => ?_)
    refine gx_aload_n dX5_groupsTookInOrder_11 rfl ?_
    refine gx_get dX5_groupsTookInOrder_12 gf_X5_46 (gs_g5 R ) (v := .ref (A 7 0 0)) (rfl) ?_
    refine gx_iload_n dX5_groupsTookInOrder_15 rfl ?_
    refine gr_7 dX5_groupsTookInOrder_16 R (q := g) rfl hgn (by omega) (gw_g W hgn) ?_
    refine gx_get dX5_groupsTookInOrder_17 gf_X5_137 (gs_g1 R hg) (v := .ref (A 14 g 0)) (rfl) ?_
    refine gx_astore_n dX5_groupsTookInOrder_20 (by decide) rfl (L' := [some (.ref (A 5 0 0)), some (.int (nI g)), some (.ref (A 14 g 0)), w3]) rfl ?_
    refine gx_iconst dX5_groupsTookInOrder_21 (v := 1) (by decide) ?_
    refine gx_istore_n dX5_groupsTookInOrder_22 (by decide) rfl (L' := [some (.ref (A 5 0 0)), some (.int (nI g)), some (.ref (A 14 g 0)), some (.int 1)]) rfl ?_
    refine cl_gi R W hgn (σ.1 3 g 0 - 1) 0 (by omega) rfl (fun hgi v => ?_) (fun hgi => ?_)
    · refine gx_iinc dX5_groupsTookInOrder_65 rfl (v := nI (g + 1)) (nI_1 _) (by decide) rfl (L' := [some (.ref (A 5 0 0)), some (.int (nI (g + 1))), some (.ref (A 14 g 0)), some (.int v)]) rfl ?_
      refine gx_goto dX5_groupsTookInOrder_68 (tgt := 2) (by decide) ?_
      rw [sc_go, if_pos hgi]
      exact ih (g + 1) _ _ (by omega)
    · exact ⟨⟨_, rfl, rfl⟩, rfl, congrArg (fun z => some (Value.int z)) (gs_bf (by rw [sc_go, if_neg (by rw [hgi]; decide)]; decide))⟩
set_option maxHeartbeats 4000000 in
theorem cc_X5_groupsTookInOrder {S : gx_S} {h : gx_H} {σ : gs_T} {A : gs_A} (R : gs_R h σ A) (W : gw_W σ) : gx_Cn S gm_X5_groupsTookInOrder 4 [.ref (A 5 0 0)] h (fun r h' => h' = h ∧ r = some (.int (gs_bi (sc_go σ (σ.1 0 0 0) 0 = true)))) := by
  refine gx_Cn.of gt_X5_groupsTookInOrder (by simp [Value.category]) (Nat.le_of_ble_eq_true rfl) ?_
  show gx_Ev S gm_X5_groupsTookInOrder 4 0 [some (.ref (A 5 0 0)), none, none, none] [] h _
  refine gx_iconst dX5_groupsTookInOrder_0 (v := 0) (by decide) ?_
  refine gx_istore_n dX5_groupsTookInOrder_1 (by decide) rfl (L' := [some (.ref (A 5 0 0)), some (.int 0), none, none]) rfl ?_
  exact cl_go R W _ 0 none none (Nat.zero_add _)
abbrev sc_fw (σ : gs_T) (p e : Nat) : Prop := lg_cmp ((σ.2.2 p >>> ((nI e).toInt64 &&& 63)) &&& 1) 1 = 0
abbrev sc_cb (σ : gs_T) (p e : Nat) : Prop := sc_fw σ p e ∧ ¬ sc_ft σ p = -1 ∧ ¬ sc_bh σ p e
def sc_ci (σ : gs_T) (p m e : Nat) : Bool := match m with
  | 0 => true
  | m + 1 => if sc_cb σ p e then false else sc_ci σ p m (e + 1)
def sc_co (σ : gs_T) (m p : Nat) : Bool := match m with
  | 0 => true
  | m + 1 => if sc_ci σ p p 0 = true then sc_co σ m (p + 1) else false
set_option maxHeartbeats 4000000 in
theorem cl_ci {S : gx_S} {h : gx_H} {σ : gs_T} {A : gs_A} (R : gs_R h σ A) (W : gw_W σ) {p : Nat} (hpc : p < σ.1 1 0 0) {Q : Option Value → gx_H → Prop} : ∀ (m e : Nat) (w3 : Option Value), e + m = p → (sc_ci σ p m e = true → ∀ (v : Int32) (w3 : Option Value), gx_Ev S gm_X5_clientsWereFollowed 4 86 [some (.ref (A 5 0 0)), some (.int (nI p)), some (.int v), w3] [] h Q) → (sc_ci σ p m e = false → Q (some (.int 0)) h) → gx_Ev S gm_X5_clientsWereFollowed 4 12 [some (.ref (A 5 0 0)), some (.int (nI p)), some (.int (nI e)), w3] [] h Q := by
  intro m
  induction m with
  | zero =>
    intro e w3 hm9 K1 K0
    have hn4 := gw_n4 W
    have hn2 := gw_n2 W
    have hcn := gw_cnt W
    refine gx_iload_n dX5_clientsWereFollowed_12 rfl ?_
    refine gx_iload_n dX5_clientsWereFollowed_13 rfl ?_
    refine gx_icmp_ge dX5_clientsWereFollowed_14 (tgt := 86) (by decide) (fun hc1 => ?_) (fun hc1 => absurd hc1 (fun z => z (nI_le (by omega) (by omega))))
    exact K1 rfl _ _
  | succ m ih =>
    intro e w3 hm9 K1 K0
    have hn4 := gw_n4 W
    have hn2 := gw_n2 W
    have hcn := gw_cnt W
    have hec : e < σ.1 1 0 0 := by omega
    refine gx_iload_n dX5_clientsWereFollowed_12 rfl ?_
    refine gx_iload_n dX5_clientsWereFollowed_13 rfl ?_
    refine gx_icmp_ge dX5_clientsWereFollowed_14 (tgt := 86) (by decide) (fun hc1 => absurd hc1 (nI_ge (by omega) (by omega))) (fun hc1 => ?_)
    refine gx_aload_n dX5_clientsWereFollowed_17 rfl ?_
    refine gx_get dX5_clientsWereFollowed_18 gf_X5_18 (gs_g5 R ) (v := .ref (A 10 0 0)) (rfl) ?_
    refine gx_iload_n dX5_clientsWereFollowed_21 rfl ?_
    refine gr_10 dX5_clientsWereFollowed_22 R (q := p) rfl (by omega) (by decide) (gw_o W hpc) ?_
    refine gx_get dX5_clientsWereFollowed_23 gf_X5_77 (gs_g3 R (gw_o W hpc)) (v := .long (σ.2.2 p)) (rfl) ?_
    refine gx_iload_n dX5_clientsWereFollowed_26 rfl ?_
    refine gx_lshr dX5_clientsWereFollowed_27 rfl ?_
    refine gx_lconst dX5_clientsWereFollowed_28 (v := 1) (by decide) ?_
    refine gx_land dX5_clientsWereFollowed_29 ?_
    refine gx_lconst dX5_clientsWereFollowed_30 (v := 1) (by decide) ?_
    refine gx_lcmp dX5_clientsWereFollowed_31 ?_
    refine gx_if_ne dX5_clientsWereFollowed_32 (tgt := 39) (by decide) (fun h1 => ?_) (fun h1 => ?_)
    · refine gx_iconst dX5_clientsWereFollowed_39 (v := 0) (by decide) ?_
      refine gx_istore_n dX5_clientsWereFollowed_40 (by decide) rfl (L' := [some (.ref (A 5 0 0)), some (.int (nI p)), some (.int (nI e)), some (.int 0)]) rfl ?_
      refine gx_iload_n dX5_clientsWereFollowed_41 rfl ?_
      refine gx_if_eq dX5_clientsWereFollowed_42 (tgt := 80) (by decide) (fun hc3 => ?_) (fun hc3 => absurd hc3 (by decide))
      refine gx_iinc dX5_clientsWereFollowed_80 rfl (v := nI (e + 1)) (nI_1 _) (by decide) rfl (L' := [some (.ref (A 5 0 0)), some (.int (nI p)), some (.int (nI (e + 1))), some (.int 0)]) rfl ?_
      refine gx_goto dX5_clientsWereFollowed_83 (tgt := 12) (by decide) ?_
      rw [sc_ci, if_neg (fun z => h1 z.1)] at K1 K0
      exact ih (e + 1) _ (by omega) K1 K0
    · refine gx_iconst dX5_clientsWereFollowed_35 (v := 1) (by decide) ?_
      refine gx_goto dX5_clientsWereFollowed_36 (tgt := 40) (by decide) ?_
      refine gx_istore_n dX5_clientsWereFollowed_40 (by decide) rfl (L' := [some (.ref (A 5 0 0)), some (.int (nI p)), some (.int (nI e)), some (.int 1)]) rfl ?_
      refine gx_iload_n dX5_clientsWereFollowed_41 rfl ?_
      refine gx_if_eq dX5_clientsWereFollowed_42 (tgt := 80) (by decide) (fun hc4 => absurd hc4 (by decide)) (fun hc4 => ?_)
      refine gx_aload_n dX5_clientsWereFollowed_45 rfl ?_
      refine gx_aload_n dX5_clientsWereFollowed_46 rfl ?_
      refine gx_get dX5_clientsWereFollowed_47 gf_X5_18 (gs_g5 R ) (v := .ref (A 10 0 0)) (rfl) ?_
      refine gx_iload_n dX5_clientsWereFollowed_50 rfl ?_
      refine gr_10 dX5_clientsWereFollowed_51 R (q := p) rfl (by omega) (by decide) (gw_o W hpc) ?_
      refine gx_invV dX5_clientsWereFollowed_52 wm_X5_282 gt_X5_finalTimeOf wy_X5_finalTimeOf wl_X5_finalTimeOf (ci := 5) rfl rfl (gs_g5 R ) (As := [.ref (A 3 p 0)]) (rest := []) rfl rfl (Nat.le_of_ble_eq_true rfl) (by decide) (cc_X5_finalTimeOf R W (o := p) hpc) (fun r1 h q1 => ?_)
      obtain ⟨rfl, rfl⟩ := q1
      show gx_Ev _ _ _ _ _ [.int (sc_ft σ p)] _ _
      refine gx_iconst dX5_clientsWereFollowed_55 (v := (-1)) (by decide) ?_
      refine gx_icmp_eq dX5_clientsWereFollowed_56 (tgt := 80) (by decide) (fun h2 => ?_) (fun h2 => ?_)
      · refine gx_iinc dX5_clientsWereFollowed_80 rfl (v := nI (e + 1)) (nI_1 _) (by decide) rfl (L' := [some (.ref (A 5 0 0)), some (.int (nI p)), some (.int (nI (e + 1))), some (.int 1)]) rfl ?_
        refine gx_goto dX5_clientsWereFollowed_83 (tgt := 12) (by decide) ?_
        rw [sc_ci, if_neg (fun z => z.2.1 h2)] at K1 K0
        exact ih (e + 1) _ (by omega) K1 K0
      · refine gx_aload_n dX5_clientsWereFollowed_59 rfl ?_
        refine gx_aload_n dX5_clientsWereFollowed_60 rfl ?_
        refine gx_get dX5_clientsWereFollowed_61 gf_X5_18 (gs_g5 R ) (v := .ref (A 10 0 0)) (rfl) ?_
        refine gx_iload_n dX5_clientsWereFollowed_64 rfl ?_
        refine gr_10 dX5_clientsWereFollowed_65 R (q := p) rfl (by omega) (by decide) (gw_o W hpc) ?_
        refine gx_aload_n dX5_clientsWereFollowed_66 rfl ?_
        refine gx_get dX5_clientsWereFollowed_67 gf_X5_18 (gs_g5 R ) (v := .ref (A 10 0 0)) (rfl) ?_
        refine gx_iload_n dX5_clientsWereFollowed_70 rfl ?_
        refine gr_10 dX5_clientsWereFollowed_71 R (q := e) rfl (by omega) (by decide) (gw_o W hec) ?_
        refine gx_invV dX5_clientsWereFollowed_72 wm_X5_278 gt_X5_isBehind wy_X5_isBehind wl_X5_isBehind (ci := 5) rfl rfl (gs_g5 R ) (As := [.ref (A 3 p 0), .ref (A 3 e 0)]) (rest := []) rfl rfl (Nat.le_of_ble_eq_true rfl) (by decide) (cc_X5_isBehind R W (p := p) (q := e) hpc hec) (fun r1 h q1 => ?_)
        obtain ⟨rfl, rfl⟩ := q1
        show gx_Ev _ _ _ _ _ [.int (gs_bi (sc_bh σ p e))] _ _
        refine gx_if_ne dX5_clientsWereFollowed_75 (tgt := 80) (by decide) (fun h3 => ?_) (fun h3 => ?_)
        · have h3 := gs_b1 h3
          refine gx_iinc dX5_clientsWereFollowed_80 rfl (v := nI (e + 1)) (nI_1 _) (by decide) rfl (L' := [some (.ref (A 5 0 0)), some (.int (nI p)), some (.int (nI (e + 1))), some (.int 1)]) rfl ?_
          refine gx_goto dX5_clientsWereFollowed_83 (tgt := 12) (by decide) ?_
          rw [sc_ci, if_neg (fun z => z.2.2 h3)] at K1 K0
          exact ih (e + 1) _ (by omega) K1 K0
        · have h3 := gs_b0 h3
          refine gx_iconst dX5_clientsWereFollowed_78 (v := 0) (by decide) ?_
          refine gx_ireturn dX5_clientsWereFollowed_79 ?_
          exact K0 (by rw [sc_ci, if_pos ⟨h1, h2, h3⟩])
set_option maxHeartbeats 4000000 in
theorem cl_co {S : gx_S} {h : gx_H} {σ : gs_T} {A : gs_A} (R : gs_R h σ A) (W : gw_W σ) : ∀ (m p : Nat) (w2 w3 : Option Value), p + m = σ.1 1 0 0 → gx_Ev S gm_X5_clientsWereFollowed 4 2 [some (.ref (A 5 0 0)), some (.int (nI p)), w2, w3] [] h (fun r h' => gx_rt (some .boolean) r ∧ h' = h ∧ r = some (.int (gs_bi (sc_co σ m p = true)))) := by
  intro m
  induction m with
  | zero =>
    intro p w2 w3 hgm
    have hn4 := gw_n4 W
    have hn2 := gw_n2 W
    have hcn := gw_cnt W
    refine gx_iload_n dX5_clientsWereFollowed_2 rfl ?_
    refine gx_aload_n dX5_clientsWereFollowed_3 rfl ?_
    refine gx_get dX5_clientsWereFollowed_4 gf_X5_59 (gs_g5 R ) (v := .int (nI (σ.1 1 0 0))) (rfl) ?_
    refine gx_icmp_ge dX5_clientsWereFollowed_7 (tgt := 92) (by decide) (fun hc1 => ?_) (fun hc1 => absurd hc1 (fun z => z (nI_le (by omega) (by omega))))
    refine gx_iconst dX5_clientsWereFollowed_92 (v := 1) (by decide) ?_
    refine gx_ireturn dX5_clientsWereFollowed_93 ?_
    exact ⟨⟨_, rfl, rfl⟩, rfl, congrArg (fun z => some (Value.int z)) (gs_bt rfl)⟩
  | succ m ih =>
    intro p w2 w3 hgm
    have hn4 := gw_n4 W
    have hn2 := gw_n2 W
    have hcn := gw_cnt W
    have hpc : p < σ.1 1 0 0 := by omega
    refine gx_iload_n dX5_clientsWereFollowed_2 rfl ?_
    refine gx_aload_n dX5_clientsWereFollowed_3 rfl ?_
    refine gx_get dX5_clientsWereFollowed_4 gf_X5_59 (gs_g5 R ) (v := .int (nI (σ.1 1 0 0))) (rfl) ?_
    refine gx_icmp_ge dX5_clientsWereFollowed_7 (tgt := 92) (by decide) (fun hc1 => absurd hc1 (nI_ge (by omega) (by omega))) (fun hc1 => ?_)
    refine gx_iconst dX5_clientsWereFollowed_10 (v := 0) (by decide) ?_
    refine gx_istore_n dX5_clientsWereFollowed_11 (by decide) rfl (L' := [some (.ref (A 5 0 0)), some (.int (nI p)), some (.int 0), w3]) rfl ?_
    refine cl_ci R W hpc p 0 _ (Nat.zero_add _) (fun hgi v w3 => ?_) (fun hgi => ?_)
    · refine gx_iinc dX5_clientsWereFollowed_86 rfl (v := nI (p + 1)) (nI_1 _) (by decide) rfl (L' := [some (.ref (A 5 0 0)), some (.int (nI (p + 1))), some (.int v), w3]) rfl ?_
      refine gx_goto dX5_clientsWereFollowed_89 (tgt := 2) (by decide) ?_
      rw [sc_co, if_pos hgi]
      exact ih (p + 1) _ _ (by omega)
    · exact ⟨⟨_, rfl, rfl⟩, rfl, congrArg (fun z => some (Value.int z)) (gs_bf (by rw [sc_co, if_neg (by rw [hgi]; decide)]; decide))⟩
set_option maxHeartbeats 4000000 in
theorem cc_X5_clientsWereFollowed {S : gx_S} {h : gx_H} {σ : gs_T} {A : gs_A} (R : gs_R h σ A) (W : gw_W σ) : gx_Cn S gm_X5_clientsWereFollowed 4 [.ref (A 5 0 0)] h (fun r h' => h' = h ∧ r = some (.int (gs_bi (sc_co σ (σ.1 1 0 0) 0 = true)))) := by
  refine gx_Cn.of gt_X5_clientsWereFollowed (by simp [Value.category]) (Nat.le_of_ble_eq_true rfl) ?_
  show gx_Ev S gm_X5_clientsWereFollowed 4 0 [some (.ref (A 5 0 0)), none, none, none] [] h _
  refine gx_iconst dX5_clientsWereFollowed_0 (v := 0) (by decide) ?_
  refine gx_istore_n dX5_clientsWereFollowed_1 (by decide) rfl (L' := [some (.ref (A 5 0 0)), some (.int 0), none, none]) rfl ?_
  exact cl_co R W _ 0 none none (Nat.zero_add _)
