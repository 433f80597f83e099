/-! the class: start, makeFinal, earliestWaiting, takeAll -/
theorem gw_of {σ τ : gs_T} (e : τ.1 = σ.1) (W : gw_W σ) : gw_W τ := by
  unfold gw_W
  rw [e]
  exact W
def sc_sv (σ : gs_T) (g o : Nat) : Int32 := gs_mx (σ.2.1 7 g 0) (σ.2.1 2 o 0) + 1
def sc_start (σ : gs_T) (g o : Nat) : gs_T := gs_i (gs_i σ 7 g 0 (sc_sv σ g o)) 8 g o (sc_sv σ g o)
set_option maxHeartbeats 4000000 in
theorem cc_X1_start {S : gx_S} {h : gx_H} {σ : gs_T} {A : gs_A} (R : gs_R h σ A) {g o : Nat} (hg : σ.1 15 g 0 = 1) (hp : σ.1 6 g o = 1) (ho : σ.1 11 o 0 = 1) : gx_Cn S gm_X1_start 1 [.ref (A 1 g 0), .ref (A 4 g o)] h (fun r h' => gs_R h' (sc_start σ g o) A ∧ gs_sm h h' ∧ r = none) := by
  refine gx_Cn.of gt_X1_start (by simp [Value.category]) (Nat.le_of_ble_eq_true rfl) ?_
  show gx_Ev S gm_X1_start 1 0 [some (.ref (A 1 g 0)), some (.ref (A 4 g o))] [] h _
  refine gx_aload_n dX1_start_0 rfl ?_
  refine gx_aload_n dX1_start_1 rfl ?_
  refine gx_get dX1_start_2 gf_X1_34 (gs_g1 R hg) (v := .int (σ.2.1 7 g 0)) (rfl) ?_
  refine gx_aload_n dX1_start_5 rfl ?_
  refine gx_get dX1_start_6 gf_X1_37 (gs_g4 R hp) (v := .ref (A 3 o 0)) (rfl) ?_
  refine gx_get dX1_start_9 gf_X1_41 (gs_g3 R ho) (v := .int (σ.2.1 2 o 0)) (rfl) ?_
  refine gx_mmax dX1_start_12 wm_X1_44 (Nat.le_of_ble_eq_true rfl) (by decide) ?_
  rw [show (if (σ.2.1 7 g 0) < (σ.2.1 2 o 0) then (σ.2.1 2 o 0) else (σ.2.1 7 g 0)) = gs_mx (σ.2.1 7 g 0) (σ.2.1 2 o 0) from rfl]
  refine gx_iconst dX1_start_15 (v := 1) (by decide) ?_
  refine gx_iadd dX1_start_16 ?_
  refine gp_I7 (σ := σ) hg dX1_start_17 gf_X1_34 R (v := (gs_mx (σ.2.1 7 g 0) (σ.2.1 2 o 0)) + 1) (fun h R hs0 => ?_)
  refine gx_aload_n dX1_start_20 rfl ?_
  refine gx_aload_n dX1_start_21 rfl ?_
  refine gx_get dX1_start_22 gf_X1_34 (gs_g1 R hg) (v := .int ((gs_mx (σ.2.1 7 g 0) (σ.2.1 2 o 0)) + 1)) (by simp [gs_i, gs_n, gs_u]) ?_
  refine gp_I8 (σ := (gs_i σ 7 g 0 ((gs_mx (σ.2.1 7 g 0) (σ.2.1 2 o 0)) + 1))) hp dX1_start_25 gf_X1_50 R (v := (gs_mx (σ.2.1 7 g 0) (σ.2.1 2 o 0)) + 1) (fun h R hs1 => ?_)
  refine gx_return dX1_start_28 ?_
  exact ⟨rfl, R, ((gs_sm.rfl.trans hs0).trans hs1), rfl⟩
abbrev sc_mfc (σ : gs_T) (g o : Nat) : Prop := σ.1 6 g o = 1 ∧ σ.2.1 10 g o = -1 ∧ sc_hal σ g o
def sc_mfv (σ : gs_T) (g o : Nat) : Int32 := gs_mx (σ.2.1 8 g o) (σ.2.1 9 g o)
def sc_mf1 (σ : gs_T) (g o : Nat) : gs_T := if sc_mfc σ g o then gs_i (gs_i σ 10 g o (sc_mfv σ g o)) 7 g 0 (gs_mx (σ.2.1 7 g 0) (sc_mfv σ g o)) else σ
def sc_mf (σ : gs_T) (g m : Nat) : gs_T := match m with
  | 0 => σ
  | m + 1 => sc_mf1 (sc_mf σ g m) g m
theorem sc_mf1_1 (σ : gs_T) (g o : Nat) : (sc_mf1 σ g o).1 = σ.1 := by
  unfold sc_mf1
  split
  · rfl
  · rfl
theorem sc_mf_1 (σ : gs_T) (g m : Nat) : (sc_mf σ g m).1 = σ.1 := by
  induction m with
  | zero => rfl
  | succ m ih => rw [sc_mf, sc_mf1_1, ih]
set_option maxHeartbeats 4000000 in
theorem cl_cmf {S : gx_S} {h0 : gx_H} {σ : gs_T} {A : gs_A} {g : Nat} (hg0 : σ.1 15 g 0 = 1) : ∀ (m q : Nat) (w2 : Option Value) (h : gx_H), q + m = 40 → gs_R h (sc_mf σ g q) A → gs_sm h0 h → gx_Ev S gm_X1_makeFinal 2 2 [some (.ref (A 1 g 0)), some (.int (nI q)), w2] [] h (fun r h' => gx_rt none r ∧ gs_R h' (sc_mf σ g 40) A ∧ gs_sm h0 h' ∧ r = none) := by
  intro m
  induction m with
  | zero =>
    intro q w2 h hq R hs
    have hq0 : q = 40 := by omega
    subst hq0
    refine gx_iload_n dX1_makeFinal_2 rfl ?_
    refine gx_bipush dX1_makeFinal_3 (v := 40) (by decide) ?_
    refine gx_icmp_ge dX1_makeFinal_5 (tgt := 70) (by decide) (fun hc1 => ?_) (fun hc1 => absurd hc1 (fun z => z (by decide)))
    refine gx_return dX1_makeFinal_70 ?_
    exact ⟨rfl, R, hs, rfl⟩
  | succ m ih =>
    intro q w2 h hq R hs
    have e1 := sc_mf_1 σ g q
    have hsucc : sc_mf σ g (q + 1) = sc_mf1 (sc_mf σ g q) g q := rfl
    generalize hτ : sc_mf σ g q = τ at R e1 hsucc
    have hg : τ.1 15 g 0 = 1 := by rw [e1]; exact hg0
    by_cases hex : τ.1 6 g q = 1
    · refine gx_iload_n dX1_makeFinal_2 rfl ?_
      refine gx_bipush dX1_makeFinal_3 (v := 40) (by decide) ?_
      refine gx_icmp_ge dX1_makeFinal_5 (tgt := 70) (by decide) (fun hc1 => absurd hc1 (nI_ge (a := q) (b := 40) (by omega) (by decide))) (fun hc1 => ?_)
      refine gx_aload_n dX1_makeFinal_8 rfl ?_
      refine gx_get dX1_makeFinal_9 gf_X1_17 (gs_g1 R hg) (v := .ref (A 13 g 0)) (rfl) ?_
      refine gx_iload_n dX1_makeFinal_12 rfl ?_
      refine gr_13 dX1_makeFinal_13 R hg (q := q) rfl (by omega) (by decide) hex ?_
      refine gx_astore_n dX1_makeFinal_14 (by decide) rfl (L' := [some (.ref (A 1 g 0)), some (.int (nI q)), some (.ref (A 4 g q))]) rfl ?_
      refine gx_aload_n dX1_makeFinal_15 rfl ?_
      refine gx_ifnull dX1_makeFinal_16 ?_
      refine gx_aload_n dX1_makeFinal_19 rfl ?_
      refine gx_get dX1_makeFinal_20 gf_X1_53 (gs_g4 R hex) (v := .int (τ.2.1 10 g q)) (rfl) ?_
      refine gx_iconst dX1_makeFinal_23 (v := (-1)) (by decide) ?_
      refine gx_icmp_ne dX1_makeFinal_24 (tgt := 64) (by decide) (fun hc1 => ?_) (fun hc1 => ?_)
      · refine gx_iinc dX1_makeFinal_64 rfl (v := nI (q + 1)) (nI_1 _) (by decide) rfl (L' := [some (.ref (A 1 g 0)), some (.int (nI (q + 1))), some (.ref (A 4 g q))]) rfl ?_
        refine gx_goto dX1_makeFinal_67 (tgt := 2) (by decide) ?_
        exact ih (q + 1) _ _ (by omega) (by rw [hsucc, sc_mf1, if_neg (fun z => hc1 z.2.1)]; exact R) hs
      · refine gx_aload_n dX1_makeFinal_27 rfl ?_
        refine gx_invV dX1_makeFinal_28 wm_X1_56 gt_X4_hasAllLocalTimes wy_X4_hasAllLocalTimes wl_X4_hasAllLocalTimes (ci := 4) rfl rfl (gs_g4 R hex) (As := []) (rest := []) rfl rfl (Nat.le_of_ble_eq_true rfl) (by decide) (cc_X4_hasAllLocalTimes R hex) (fun r1 h q1 => ?_)
        obtain ⟨rfl, rfl⟩ := q1
        show gx_Ev _ _ _ _ _ [.int (gs_bi (sc_hal τ g q))] _ _
        refine gx_if_eq dX1_makeFinal_31 (tgt := 64) (by decide) (fun hc2 => ?_) (fun hc2 => ?_)
        · have hc2 := gs_b0 hc2
          refine gx_iinc dX1_makeFinal_64 rfl (v := nI (q + 1)) (nI_1 _) (by decide) rfl (L' := [some (.ref (A 1 g 0)), some (.int (nI (q + 1))), some (.ref (A 4 g q))]) rfl ?_
          refine gx_goto dX1_makeFinal_67 (tgt := 2) (by decide) ?_
          exact ih (q + 1) _ _ (by omega) (by rw [hsucc, sc_mf1, if_neg (fun z => hc2 z.2.2)]; exact R) hs
        · have hc2 := gs_b1 hc2
          refine gx_aload_n dX1_makeFinal_34 rfl ?_
          refine gx_aload_n dX1_makeFinal_35 rfl ?_
          refine gx_get dX1_makeFinal_36 gf_X1_50 (gs_g4 R hex) (v := .int (τ.2.1 8 g q)) (rfl) ?_
          refine gx_aload_n dX1_makeFinal_39 rfl ?_
          refine gx_get dX1_makeFinal_40 gf_X1_60 (gs_g4 R hex) (v := .int (τ.2.1 9 g q)) (rfl) ?_
          refine gx_mmax dX1_makeFinal_43 wm_X1_44 (Nat.le_of_ble_eq_true rfl) (by decide) ?_
          rw [show (if (τ.2.1 8 g q) < (τ.2.1 9 g q) then (τ.2.1 9 g q) else (τ.2.1 8 g q)) = gs_mx (τ.2.1 8 g q) (τ.2.1 9 g q) from rfl]
          refine gp_I10 (σ := τ) hex dX1_makeFinal_46 gf_X1_53 R (v := gs_mx (τ.2.1 8 g q) (τ.2.1 9 g q)) (fun h R hs0 => ?_)
          refine gx_aload_n dX1_makeFinal_49 rfl ?_
          refine gx_aload_n dX1_makeFinal_50 rfl ?_
          refine gx_get dX1_makeFinal_51 gf_X1_34 (gs_g1 R hg) (v := .int (τ.2.1 7 g 0)) (rfl) ?_
          refine gx_aload_n dX1_makeFinal_54 rfl ?_
          refine gx_get dX1_makeFinal_55 gf_X1_53 (gs_g4 R hex) (v := .int (gs_mx (τ.2.1 8 g q) (τ.2.1 9 g q))) (by simp [gs_i, gs_n, gs_u]) ?_
          refine gx_mmax dX1_makeFinal_58 wm_X1_44 (Nat.le_of_ble_eq_true rfl) (by decide) ?_
          rw [show (if (τ.2.1 7 g 0) < (gs_mx (τ.2.1 8 g q) (τ.2.1 9 g q)) then (gs_mx (τ.2.1 8 g q) (τ.2.1 9 g q)) else (τ.2.1 7 g 0)) = gs_mx (τ.2.1 7 g 0) (gs_mx (τ.2.1 8 g q) (τ.2.1 9 g q)) from rfl]
          refine gp_I7 (σ := (gs_i τ 10 g q (gs_mx (τ.2.1 8 g q) (τ.2.1 9 g q)))) hg dX1_makeFinal_61 gf_X1_34 R (v := gs_mx (τ.2.1 7 g 0) (gs_mx (τ.2.1 8 g q) (τ.2.1 9 g q))) (fun h R hs1 => ?_)
          refine gx_iinc dX1_makeFinal_64 rfl (v := nI (q + 1)) (nI_1 _) (by decide) rfl (L' := [some (.ref (A 1 g 0)), some (.int (nI (q + 1))), some (.ref (A 4 g q))]) rfl ?_
          refine gx_goto dX1_makeFinal_67 (tgt := 2) (by decide) ?_
          exact ih (q + 1) _ _ (by omega) (by rw [hsucc, sc_mf1, if_pos ⟨hex, hc1, hc2⟩]; exact R) ((hs.trans hs0).trans hs1)
    · refine gx_iload_n dX1_makeFinal_2 rfl ?_
      refine gx_bipush dX1_makeFinal_3 (v := 40) (by decide) ?_
      refine gx_icmp_ge dX1_makeFinal_5 (tgt := 70) (by decide) (fun hc1 => absurd hc1 (nI_ge (a := q) (b := 40) (by omega) (by decide))) (fun hc1 => ?_)
      refine gx_aload_n dX1_makeFinal_8 rfl ?_
      refine gx_get dX1_makeFinal_9 gf_X1_17 (gs_g1 R hg) (v := .ref (A 13 g 0)) (rfl) ?_
      refine gx_iload_n dX1_makeFinal_12 rfl ?_
      refine gr_13N dX1_makeFinal_13 R hg (q := q) rfl (by omega) (by decide) hex ?_
      refine gx_astore_nN dX1_makeFinal_14 (by decide) rfl (L' := [some (.ref (A 1 g 0)), some (.int (nI q)), some (.null)]) rfl ?_
      refine gx_aload_nN dX1_makeFinal_15 rfl ?_
      refine gx_ifnullN dX1_makeFinal_16 (tgt := 64) (by decide) ?_
      refine gx_iinc dX1_makeFinal_64 rfl (v := nI (q + 1)) (nI_1 _) (by decide) rfl (L' := [some (.ref (A 1 g 0)), some (.int (nI (q + 1))), some (.null)]) rfl ?_
      refine gx_goto dX1_makeFinal_67 (tgt := 2) (by decide) ?_
      exact ih (q + 1) _ _ (by omega) (by rw [hsucc, sc_mf1, if_neg (fun z => hex z.1)]; exact R) hs
set_option maxHeartbeats 4000000 in
theorem cc_X1_makeFinal {S : gx_S} {h : gx_H} {σ : gs_T} {A : gs_A} (R : gs_R h σ A) {g : Nat} (hg : σ.1 15 g 0 = 1) : gx_Cn S gm_X1_makeFinal 2 [.ref (A 1 g 0)] h (fun r h' => gs_R h' (sc_mf σ g 40) A ∧ gs_sm h h' ∧ r = none) := by
  refine gx_Cn.of gt_X1_makeFinal (by simp [Value.category]) (Nat.le_of_ble_eq_true rfl) ?_
  show gx_Ev S gm_X1_makeFinal 2 0 [some (.ref (A 1 g 0)), none, none] [] h _
  refine gx_iconst dX1_makeFinal_0 (v := 0) (by decide) ?_
  refine gx_istore_n dX1_makeFinal_1 (by decide) rfl (L' := [some (.ref (A 1 g 0)), some (.int 0), none]) rfl ?_
  exact cl_cmf hg 40 0 _ _ rfl R gs_sm.rfl
abbrev sc_ewc (σ : gs_T) (g q e : Nat) : Prop := σ.1 6 g q = 1 ∧ sc_wt σ g q ∧ (e = 0 ∨ sc_ie σ g q g (e - 1))
def sc_ew (σ : gs_T) (g m : Nat) : Nat := match m with
  | 0 => 0
  | m + 1 => if sc_ewc σ g m (sc_ew σ g m) then m + 1 else sc_ew σ g m
theorem sc_ew_ex (σ : gs_T) (g m : Nat) : ∀ e, sc_ew σ g m = e + 1 → σ.1 6 g e = 1 ∧ e < m ∧ sc_wt σ g e := by
  induction m with
  | zero => intro e h; cases h
  | succ m ih =>
    intro e h
    rw [sc_ew] at h
    split at h
    · rename_i hc
      have : m = e := by omega
      subst this
      exact ⟨hc.1, by omega, hc.2.1⟩
    · have := ih e h
      exact ⟨this.1, by omega, this.2.2⟩
set_option maxHeartbeats 4000000 in
theorem cl_ew {S : gx_S} {h : gx_H} {σ : gs_T} {A : gs_A} (R : gs_R h σ A) (W : gw_W σ) {g : Nat} (hg : σ.1 15 g 0 = 1) {Q : Option Value → gx_H → Prop} (K : ∀ w3 w4, gx_Ev S gm_X1_earliestWaiting 3 60 [some (.ref (A 1 g 0)), (some (va_rf (gs_op (sc_ew σ g 40) (fun z => A 4 g z)))), some (.int (nI 40)), w3, w4] [] h Q) : ∀ (m q : Nat) (w3 w4 : Option Value), q + m = 40 → gx_Ev S gm_X1_earliestWaiting 3 4 [some (.ref (A 1 g 0)), (some (va_rf (gs_op (sc_ew σ g q) (fun z => A 4 g z)))), some (.int (nI q)), w3, w4] [] h Q := by
  intro m
  induction m with
  | zero =>
    intro q w3 w4 hq
    have hq0 : q = 40 := by omega
    subst hq0
    refine gx_iload_n dX1_earliestWaiting_4 rfl ?_
    refine gx_bipush dX1_earliestWaiting_5 (v := 40) (by decide) ?_
    refine gx_icmp_ge dX1_earliestWaiting_7 (tgt := 60) (by decide) (fun hc1 => ?_) (fun hc1 => absurd hc1 (fun z => z (by decide)))
    exact K w3 w4
  | succ m ih =>
    intro q w3 w4 hq
    have hcn := gw_cnt W
    rcases gs_zs (sc_ew σ g q) with he | ⟨e, he⟩
    · rw [he]
      show gx_Ev S gm_X1_earliestWaiting 3 4 [some (.ref (A 1 g 0)), some (.null), some (.int (nI q)), w3, w4] [] h _
      by_cases hex : σ.1 6 g q = 1
      · refine gx_iload_n dX1_earliestWaiting_4 rfl ?_
        refine gx_bipush dX1_earliestWaiting_5 (v := 40) (by decide) ?_
        refine gx_icmp_ge dX1_earliestWaiting_7 (tgt := 60) (by decide) (fun hc1 => absurd hc1 (nI_ge (a := q) (b := 40) (by omega) (by decide))) (fun hc1 => ?_)
        refine gx_aload_n dX1_earliestWaiting_10 rfl ?_
        refine gx_get dX1_earliestWaiting_11 gf_X1_17 (gs_g1 R hg) (v := .ref (A 13 g 0)) (rfl) ?_
        refine gx_iload_n dX1_earliestWaiting_14 rfl ?_
        refine gr_13 dX1_earliestWaiting_15 R hg (q := q) rfl (by omega) (by decide) hex ?_
        refine gx_astore_n dX1_earliestWaiting_16 (by decide) rfl (L' := [some (.ref (A 1 g 0)), some (.null), some (.int (nI q)), some (.ref (A 4 g q)), w4]) rfl ?_
        refine gx_aload_n dX1_earliestWaiting_17 rfl ?_
        refine gx_ifnull dX1_earliestWaiting_18 ?_
        refine gx_aload_n dX1_earliestWaiting_21 rfl ?_
        refine gx_invV dX1_earliestWaiting_22 wm_X1_73 gt_X4_waits wy_X4_waits wl_X4_waits (ci := 4) rfl rfl (gs_g4 R hex) (As := []) (rest := []) rfl rfl (Nat.le_of_ble_eq_true rfl) (by decide) (cc_X4_waits R hex) (fun r1 h q1 => ?_)
        obtain ⟨rfl, rfl⟩ := q1
        show gx_Ev _ _ _ _ _ [.int (gs_bi (sc_wt σ g q))] _ _
        refine gx_if_eq dX1_earliestWaiting_25 (tgt := 32) (by decide) (fun hc1 => ?_) (fun hc1 => ?_)
        · have hc1 := gs_b0 hc1
          refine gx_iconst dX1_earliestWaiting_32 (v := 0) (by decide) ?_
          refine gx_istore dX1_earliestWaiting_33 (by decide) rfl (L' := [some (.ref (A 1 g 0)), some (.null), some (.int (nI q)), some (.ref (A 4 g q)), some (.int 0)]) rfl ?_
          refine gx_iload dX1_earliestWaiting_35 rfl ?_
          refine gx_if_eq dX1_earliestWaiting_37 (tgt := 54) (by decide) (fun hc3 => ?_) (fun hc3 => absurd hc3 (by decide))
          refine gx_iinc dX1_earliestWaiting_54 rfl (v := nI (q + 1)) (nI_1 _) (by decide) rfl (L' := [some (.ref (A 1 g 0)), some (.null), some (.int (nI (q + 1))), some (.ref (A 4 g q)), some (.int 0)]) rfl ?_
          refine gx_goto dX1_earliestWaiting_57 (tgt := 4) (by decide) ?_
          have e9 : sc_ew σ g (q + 1) = 0 := by rw [sc_ew, if_neg (fun z => hc1 z.2.1), he]
          have k := ih (q + 1) (some (.ref (A 4 g q))) (some (.int 0)) (by omega)
          rw [e9] at k
          exact k
        · have hc1 := gs_b1 hc1
          refine gx_iconst dX1_earliestWaiting_28 (v := 1) (by decide) ?_
          refine gx_goto dX1_earliestWaiting_29 (tgt := 33) (by decide) ?_
          refine gx_istore dX1_earliestWaiting_33 (by decide) rfl (L' := [some (.ref (A 1 g 0)), some (.null), some (.int (nI q)), some (.ref (A 4 g q)), some (.int 1)]) rfl ?_
          refine gx_iload dX1_earliestWaiting_35 rfl ?_
          refine gx_if_eq dX1_earliestWaiting_37 (tgt := 54) (by decide) (fun hc4 => absurd hc4 (by decide)) (fun hc4 => ?_)
          refine gx_aload_nN dX1_earliestWaiting_40 rfl ?_
          refine gx_ifnullN dX1_earliestWaiting_41 (tgt := 52) (by decide) ?_
          refine gx_aload_n dX1_earliestWaiting_52 rfl ?_
          refine gx_astore_n dX1_earliestWaiting_53 (by decide) rfl (L' := [some (.ref (A 1 g 0)), some (.ref (A 4 g q)), some (.int (nI q)), some (.ref (A 4 g q)), some (.int 1)]) rfl ?_
          refine gx_iinc dX1_earliestWaiting_54 rfl (v := nI (q + 1)) (nI_1 _) (by decide) rfl (L' := [some (.ref (A 1 g 0)), some (.ref (A 4 g q)), some (.int (nI (q + 1))), some (.ref (A 4 g q)), some (.int 1)]) rfl ?_
          refine gx_goto dX1_earliestWaiting_57 (tgt := 4) (by decide) ?_
          have e9 : sc_ew σ g (q + 1) = q + 1 := by rw [sc_ew, if_pos ⟨hex, hc1, Or.inl he⟩]
          have k := ih (q + 1) (some (.ref (A 4 g q))) (some (.int 1)) (by omega)
          rw [e9] at k
          exact k
      · refine gx_iload_n dX1_earliestWaiting_4 rfl ?_
        refine gx_bipush dX1_earliestWaiting_5 (v := 40) (by decide) ?_
        refine gx_icmp_ge dX1_earliestWaiting_7 (tgt := 60) (by decide) (fun hc1 => absurd hc1 (nI_ge (a := q) (b := 40) (by omega) (by decide))) (fun hc1 => ?_)
        refine gx_aload_n dX1_earliestWaiting_10 rfl ?_
        refine gx_get dX1_earliestWaiting_11 gf_X1_17 (gs_g1 R hg) (v := .ref (A 13 g 0)) (rfl) ?_
        refine gx_iload_n dX1_earliestWaiting_14 rfl ?_
        refine gr_13N dX1_earliestWaiting_15 R hg (q := q) rfl (by omega) (by decide) hex ?_
        refine gx_astore_nN dX1_earliestWaiting_16 (by decide) rfl (L' := [some (.ref (A 1 g 0)), some (.null), some (.int (nI q)), some (.null), w4]) rfl ?_
        refine gx_aload_nN dX1_earliestWaiting_17 rfl ?_
        refine gx_ifnullN dX1_earliestWaiting_18 (tgt := 32) (by decide) ?_
        refine gx_iconst dX1_earliestWaiting_32 (v := 0) (by decide) ?_
        refine gx_istore dX1_earliestWaiting_33 (by decide) rfl (L' := [some (.ref (A 1 g 0)), some (.null), some (.int (nI q)), some (.null), some (.int 0)]) rfl ?_
        refine gx_iload dX1_earliestWaiting_35 rfl ?_
        refine gx_if_eq dX1_earliestWaiting_37 (tgt := 54) (by decide) (fun hc2 => ?_) (fun hc2 => absurd hc2 (by decide))
        refine gx_iinc dX1_earliestWaiting_54 rfl (v := nI (q + 1)) (nI_1 _) (by decide) rfl (L' := [some (.ref (A 1 g 0)), some (.null), some (.int (nI (q + 1))), some (.null), some (.int 0)]) rfl ?_
        refine gx_goto dX1_earliestWaiting_57 (tgt := 4) (by decide) ?_
        have e9 : sc_ew σ g (q + 1) = 0 := by rw [sc_ew, if_neg (fun z => hex z.1), he]
        have k := ih (q + 1) (some (.null)) (some (.int 0)) (by omega)
        rw [e9] at k
        exact k
    · rw [he]
      show gx_Ev S gm_X1_earliestWaiting 3 4 [some (.ref (A 1 g 0)), some (.ref (A 4 g e)), some (.int (nI q)), w3, w4] [] h _
      obtain ⟨hpe, hle, -⟩ := sc_ew_ex σ g q e he
      by_cases hex : σ.1 6 g q = 1
      · refine gx_iload_n dX1_earliestWaiting_4 rfl ?_
        refine gx_bipush dX1_earliestWaiting_5 (v := 40) (by decide) ?_
        refine gx_icmp_ge dX1_earliestWaiting_7 (tgt := 60) (by decide) (fun hc1 => absurd hc1 (nI_ge (a := q) (b := 40) (by omega) (by decide))) (fun hc1 => ?_)
        refine gx_aload_n dX1_earliestWaiting_10 rfl ?_
        refine gx_get dX1_earliestWaiting_11 gf_X1_17 (gs_g1 R hg) (v := .ref (A 13 g 0)) (rfl) ?_
        refine gx_iload_n dX1_earliestWaiting_14 rfl ?_
        refine gr_13 dX1_earliestWaiting_15 R hg (q := q) rfl (by omega) (by decide) hex ?_
        refine gx_astore_n dX1_earliestWaiting_16 (by decide) rfl (L' := [some (.ref (A 1 g 0)), some (.ref (A 4 g e)), some (.int (nI q)), some (.ref (A 4 g q)), w4]) rfl ?_
        refine gx_aload_n dX1_earliestWaiting_17 rfl ?_
        refine gx_ifnull dX1_earliestWaiting_18 ?_
        refine gx_aload_n dX1_earliestWaiting_21 rfl ?_
        refine gx_invV dX1_earliestWaiting_22 wm_X1_73 gt_X4_waits wy_X4_waits wl_X4_waits (ci := 4) rfl rfl (gs_g4 R hex) (As := []) (rest := []) rfl rfl (Nat.le_of_ble_eq_true rfl) (by decide) (cc_X4_waits R hex) (fun r1 h q1 => ?_)
        obtain ⟨rfl, rfl⟩ := q1
        show gx_Ev _ _ _ _ _ [.int (gs_bi (sc_wt σ g q))] _ _
        refine gx_if_eq dX1_earliestWaiting_25 (tgt := 32) (by decide) (fun hc1 => ?_) (fun hc1 => ?_)
        · have hc1 := gs_b0 hc1
          refine gx_iconst dX1_earliestWaiting_32 (v := 0) (by decide) ?_
          refine gx_istore dX1_earliestWaiting_33 (by decide) rfl (L' := [some (.ref (A 1 g 0)), some (.ref (A 4 g e)), some (.int (nI q)), some (.ref (A 4 g q)), some (.int 0)]) rfl ?_
          refine gx_iload dX1_earliestWaiting_35 rfl ?_
          refine gx_if_eq dX1_earliestWaiting_37 (tgt := 54) (by decide) (fun hc3 => ?_) (fun hc3 => absurd hc3 (by decide))
          refine gx_iinc dX1_earliestWaiting_54 rfl (v := nI (q + 1)) (nI_1 _) (by decide) rfl (L' := [some (.ref (A 1 g 0)), some (.ref (A 4 g e)), some (.int (nI (q + 1))), some (.ref (A 4 g q)), some (.int 0)]) rfl ?_
          refine gx_goto dX1_earliestWaiting_57 (tgt := 4) (by decide) ?_
          have e9 : sc_ew σ g (q + 1) = e + 1 := by rw [sc_ew, if_neg (fun z => hc1 z.2.1), he]
          have k := ih (q + 1) (some (.ref (A 4 g q))) (some (.int 0)) (by omega)
          rw [e9] at k
          exact k
        · have hc1 := gs_b1 hc1
          refine gx_iconst dX1_earliestWaiting_28 (v := 1) (by decide) ?_
          refine gx_goto dX1_earliestWaiting_29 (tgt := 33) (by decide) ?_
          refine gx_istore dX1_earliestWaiting_33 (by decide) rfl (L' := [some (.ref (A 1 g 0)), some (.ref (A 4 g e)), some (.int (nI q)), some (.ref (A 4 g q)), some (.int 1)]) rfl ?_
          refine gx_iload dX1_earliestWaiting_35 rfl ?_
          refine gx_if_eq dX1_earliestWaiting_37 (tgt := 54) (by decide) (fun hc4 => absurd hc4 (by decide)) (fun hc4 => ?_)
          refine gx_aload_n dX1_earliestWaiting_40 rfl ?_
          refine gx_ifnull dX1_earliestWaiting_41 ?_
          refine gx_aload_n dX1_earliestWaiting_44 rfl ?_
          refine gx_aload_n dX1_earliestWaiting_45 rfl ?_
          refine gx_invV dX1_earliestWaiting_46 wm_X1_76 gt_X4_isEarlierThan wy_X4_isEarlierThan wl_X4_isEarlierThan (ci := 4) rfl rfl (gs_g4 R hex) (As := [.ref (A 4 g e)]) (rest := []) rfl rfl (Nat.le_of_ble_eq_true rfl) (by decide) (cc_X4_isEarlierThan R (g := g) (o := q) (g2 := g) (o2 := e) hex hpe (gw_o W (gw_p W hex).2) (gw_o W (gw_p W hpe).2) (by omega) (by omega)) (fun r1 h q1 => ?_)
          obtain ⟨rfl, rfl⟩ := q1
          show gx_Ev _ _ _ _ _ [.int (gs_bi (sc_ie σ g q g e))] _ _
          refine gx_if_eq dX1_earliestWaiting_49 (tgt := 54) (by decide) (fun hc2 => ?_) (fun hc2 => ?_)
          · have hc2 := gs_b0 hc2
            refine gx_iinc dX1_earliestWaiting_54 rfl (v := nI (q + 1)) (nI_1 _) (by decide) rfl (L' := [some (.ref (A 1 g 0)), some (.ref (A 4 g e)), some (.int (nI (q + 1))), some (.ref (A 4 g q)), some (.int 1)]) rfl ?_
            refine gx_goto dX1_earliestWaiting_57 (tgt := 4) (by decide) ?_
            have e9 : sc_ew σ g (q + 1) = e + 1 := by rw [sc_ew, if_neg (fun z => z.2.2.elim (fun z => by rw [he] at z; omega) (fun z => hc2 (by rw [he] at z; exact z))), he]
            have k := ih (q + 1) (some (.ref (A 4 g q))) (some (.int 1)) (by omega)
            rw [e9] at k
            exact k
          · have hc2 := gs_b1 hc2
            refine gx_aload_n dX1_earliestWaiting_52 rfl ?_
            refine gx_astore_n dX1_earliestWaiting_53 (by decide) rfl (L' := [some (.ref (A 1 g 0)), some (.ref (A 4 g q)), some (.int (nI q)), some (.ref (A 4 g q)), some (.int 1)]) rfl ?_
            refine gx_iinc dX1_earliestWaiting_54 rfl (v := nI (q + 1)) (nI_1 _) (by decide) rfl (L' := [some (.ref (A 1 g 0)), some (.ref (A 4 g q)), some (.int (nI (q + 1))), some (.ref (A 4 g q)), some (.int 1)]) rfl ?_
            refine gx_goto dX1_earliestWaiting_57 (tgt := 4) (by decide) ?_
            have e9 : sc_ew σ g (q + 1) = q + 1 := by rw [sc_ew, if_pos ⟨hex, hc1, Or.inr (by rw [he]; exact hc2)⟩]
            have k := ih (q + 1) (some (.ref (A 4 g q))) (some (.int 1)) (by omega)
            rw [e9] at k
            exact k
      · refine gx_iload_n dX1_earliestWaiting_4 rfl ?_
        refine gx_bipush dX1_earliestWaiting_5 (v := 40) (by decide) ?_
        refine gx_icmp_ge dX1_earliestWaiting_7 (tgt := 60) (by decide) (fun hc1 => absurd hc1 (nI_ge (a := q) (b := 40) (by omega) (by decide))) (fun hc1 => ?_)
        refine gx_aload_n dX1_earliestWaiting_10 rfl ?_
        refine gx_get dX1_earliestWaiting_11 gf_X1_17 (gs_g1 R hg) (v := .ref (A 13 g 0)) (rfl) ?_
        refine gx_iload_n dX1_earliestWaiting_14 rfl ?_
        refine gr_13N dX1_earliestWaiting_15 R hg (q := q) rfl (by omega) (by decide) hex ?_
        refine gx_astore_nN dX1_earliestWaiting_16 (by decide) rfl (L' := [some (.ref (A 1 g 0)), some (.ref (A 4 g e)), some (.int (nI q)), some (.null), w4]) rfl ?_
        refine gx_aload_nN dX1_earliestWaiting_17 rfl ?_
        refine gx_ifnullN dX1_earliestWaiting_18 (tgt := 32) (by decide) ?_
        refine gx_iconst dX1_earliestWaiting_32 (v := 0) (by decide) ?_
        refine gx_istore dX1_earliestWaiting_33 (by decide) rfl (L' := [some (.ref (A 1 g 0)), some (.ref (A 4 g e)), some (.int (nI q)), some (.null), some (.int 0)]) rfl ?_
        refine gx_iload dX1_earliestWaiting_35 rfl ?_
        refine gx_if_eq dX1_earliestWaiting_37 (tgt := 54) (by decide) (fun hc2 => ?_) (fun hc2 => absurd hc2 (by decide))
        refine gx_iinc dX1_earliestWaiting_54 rfl (v := nI (q + 1)) (nI_1 _) (by decide) rfl (L' := [some (.ref (A 1 g 0)), some (.ref (A 4 g e)), some (.int (nI (q + 1))), some (.null), some (.int 0)]) rfl ?_
        refine gx_goto dX1_earliestWaiting_57 (tgt := 4) (by decide) ?_
        have e9 : sc_ew σ g (q + 1) = e + 1 := by rw [sc_ew, if_neg (fun z => hex z.1), he]
        have k := ih (q + 1) (some (.null)) (some (.int 0)) (by omega)
        rw [e9] at k
        exact k
set_option maxHeartbeats 4000000 in
theorem cc_X1_earliestWaiting {S : gx_S} {h : gx_H} {σ : gs_T} {A : gs_A} (R : gs_R h σ A) (W : gw_W σ) {g : Nat} (hg : σ.1 15 g 0 = 1) : gx_Cn S gm_X1_earliestWaiting 3 [.ref (A 1 g 0)] h (fun r h' => h' = h ∧ r = some (va_rf (gs_op (sc_ew σ g 40) (fun z => A 4 g z)))) := by
  refine gx_Cn.of gt_X1_earliestWaiting (by simp [Value.category]) (Nat.le_of_ble_eq_true rfl) ?_
  show gx_Ev S gm_X1_earliestWaiting 3 0 [some (.ref (A 1 g 0)), none, none, none, none] [] h _
  refine gx_null dX1_earliestWaiting_0 ?_
  refine gx_astore_nN dX1_earliestWaiting_1 (by decide) rfl (L' := [some (.ref (A 1 g 0)), some (.null), none, none, none]) rfl ?_
  refine gx_iconst dX1_earliestWaiting_2 (v := 0) (by decide) ?_
  refine gx_istore_n dX1_earliestWaiting_3 (by decide) rfl (L' := [some (.ref (A 1 g 0)), some (.null), some (.int 0), none, none]) rfl ?_
  refine cl_ew R W hg (fun w3 w4 => ?_) 40 0 none none rfl
  have hexs := sc_ew_ex σ g 40
  rcases gs_zs (sc_ew σ g 40) with he | ⟨e, he⟩
  · rw [he]
    show gx_Ev S gm_X1_earliestWaiting 3 60 [some (.ref (A 1 g 0)), some (.null), some (.int (nI 40)), w3, w4] [] h _
    refine gx_aload_nN dX1_earliestWaiting_60 rfl ?_
    refine gx_areturnN dX1_earliestWaiting_61 ?_
    exact ⟨⟨_, rfl⟩, rfl, rfl⟩
  · rw [he]
    show gx_Ev S gm_X1_earliestWaiting 3 60 [some (.ref (A 1 g 0)), some (.ref (A 4 g e)), some (.int (nI 40)), w3, w4] [] h _
    refine gx_aload_n dX1_earliestWaiting_60 rfl ?_
    refine gx_areturn dX1_earliestWaiting_61 ?_
    exact ⟨⟨_, rfl⟩, rfl, rfl⟩
