/-! the class: its questions -/
def sc_value (σ : gs_T) (x : Int32) : Int32 := if 0 ≤ x ∧ x < 16 then σ.2.1 19 x.toNatClampNeg 0 else -1
def sc_clock (σ : gs_T) (x : Int32) : Int32 := if 0 ≤ x ∧ x < nI (σ.1 0 0 0) then σ.2.1 7 x.toNatClampNeg 0 else -1
def sc_seen (σ : gs_T) (x : Int32) : Int32 := if 0 ≤ x ∧ x < 4 then σ.2.1 20 x.toNatClampNeg 0 else -1
def sc_taken (σ : gs_T) (x y : Int32) : Int32 := if 0 ≤ x ∧ x < nI (σ.1 0 0 0) then (if 0 ≤ y ∧ y < nI (σ.1 3 x.toNatClampNeg 0) then nI (σ.1 5 x.toNatClampNeg y.toNatClampNeg - 1) else -1) else -1
def sc_answered (σ : gs_T) (x : Int32) : Int32 := if 0 ≤ x ∧ x < nI (σ.1 1 0 0) then (if σ.2.1 3 x.toNatClampNeg 0 = 0 then 0 else 1) else 0
def sc_answer (σ : gs_T) (x : Int32) : Int32 := if sc_answered σ x = 0 then -2 else σ.2.1 4 x.toNatClampNeg 0
def sc_time (σ : gs_T) (x y z : Int32) : Int32 := if 0 ≤ x ∧ x < nI (σ.1 1 0 0) then (if 0 ≤ y ∧ y < nI (σ.1 0 0 0) then (if z = 0 then (if σ.1 6 y.toNatClampNeg x.toNatClampNeg = 1 then σ.2.1 8 y.toNatClampNeg x.toNatClampNeg else -1) else if z = 1 then (if σ.1 6 y.toNatClampNeg x.toNatClampNeg = 1 then σ.2.1 10 y.toNatClampNeg x.toNatClampNeg else -1) else if z = 2 then (if σ.1 6 y.toNatClampNeg x.toNatClampNeg = 1 then (if σ.2.1 15 y.toNatClampNeg x.toNatClampNeg = 0 then 0 else 1) else 0) else -1) else -1) else -1
def sc_flight (σ : gs_T) (x z : Int32) : Int32 := if 0 ≤ x ∧ x < nI (σ.1 2 0 0) then (if z = 0 then σ.2.1 16 x.toNatClampNeg 0 else if z = 1 then nI (σ.1 9 x.toNatClampNeg 0) else if z = 2 then σ.2.1 17 x.toNatClampNeg 0 else if z = 3 then nI (σ.1 8 x.toNatClampNeg 0) else if z = 4 then (if σ.2.1 16 x.toNatClampNeg 0 = 1 then σ.2.1 18 x.toNatClampNeg 0 else -1) else -1) else -1
set_option maxHeartbeats 4000000 in
theorem cc_X5_value {S : gx_S} {h : gx_H} {σ : gs_T} {A : gs_A} (R : gs_R h σ A) (W : gw_W σ) (x : Int32) : gx_Cn S gm_X5_value 2 [.ref (A 5 0 0), .int x] h (fun r h' => h' = h ∧ r = some (.int (sc_value σ x))) := by
  refine gx_Cn.of gt_X5_value (by simp [Value.category]) (Nat.le_of_ble_eq_true rfl) ?_
  show gx_Ev S gm_X5_value 2 0 [some (.ref (A 5 0 0)), some (.int x)] [] h _
  refine gx_iload_n dX5_value_0 rfl ?_
  refine gx_invS dX5_value_1 wm_X5_165 gt_X5_isKey ws_X5_isKey (As := [.int x]) (rest := []) rfl rfl (Nat.le_of_ble_eq_true rfl) (by decide) (cc_X5_isKey x) (fun r1 h q1 => ?_)
  obtain ⟨rfl, rfl⟩ := q1
  show gx_Ev _ _ _ _ _ [.int (gs_bi (0 ≤ x ∧ x < 16))] _ _
  refine gx_if_eq dX5_value_4 (tgt := 16) (by decide) (fun hc1 => ?_) (fun hc1 => ?_)
  · have hc1 := gs_b0 hc1
    refine gx_iconst dX5_value_16 (v := (-1)) (by decide) ?_
    refine gx_ireturn dX5_value_17 ?_
    exact ⟨⟨_, rfl, rfl⟩, rfl, by simp [sc_value, hc1]⟩
  · have hc1 := gs_b1 hc1
    refine gx_aload_n dX5_value_7 rfl ?_
    refine gx_get dX5_value_8 gf_X5_9 (gs_g5 R ) (v := .ref (A 8 0 0)) (rfl) ?_
    refine gx_iload_n dX5_value_11 rfl ?_
    refine gq_8 dX5_value_12 R  (q := x.toNatClampNeg) ((gs_ixl (N := 16) rfl hc1 (by first | decide | (have := gw_n4 W; have := gw_cnt W; have := gw_fl W; omega))).1) ((gs_ixl (N := 16) rfl hc1 (by first | decide | (have := gw_n4 W; have := gw_cnt W; have := gw_fl W; omega))).2) (v := σ.2.1 19 x.toNatClampNeg 0) (rfl) ?_
    refine gx_goto dX5_value_13 (tgt := 17) (by decide) ?_
    refine gx_ireturn dX5_value_17 ?_
    exact ⟨⟨_, rfl, rfl⟩, rfl, by simp [sc_value, hc1]⟩
set_option maxHeartbeats 4000000 in
theorem cc_X5_seen {S : gx_S} {h : gx_H} {σ : gs_T} {A : gs_A} (R : gs_R h σ A) (W : gw_W σ) (x : Int32) : gx_Cn S gm_X5_seen 2 [.ref (A 5 0 0), .int x] h (fun r h' => h' = h ∧ r = some (.int (sc_seen σ x))) := by
  refine gx_Cn.of gt_X5_seen (by simp [Value.category]) (Nat.le_of_ble_eq_true rfl) ?_
  show gx_Ev S gm_X5_seen 2 0 [some (.ref (A 5 0 0)), some (.int x)] [] h _
  refine gx_iload_n dX5_seen_0 rfl ?_
  refine gx_invS dX5_seen_1 wm_X5_171 gt_X5_isClient ws_X5_isClient (As := [.int x]) (rest := []) rfl rfl (Nat.le_of_ble_eq_true rfl) (by decide) (cc_X5_isClient x) (fun r1 h q1 => ?_)
  obtain ⟨rfl, rfl⟩ := q1
  show gx_Ev _ _ _ _ _ [.int (gs_bi (0 ≤ x ∧ x < 4))] _ _
  refine gx_if_eq dX5_seen_4 (tgt := 16) (by decide) (fun hc1 => ?_) (fun hc1 => ?_)
  · have hc1 := gs_b0 hc1
    refine gx_iconst dX5_seen_16 (v := (-1)) (by decide) ?_
    refine gx_ireturn dX5_seen_17 ?_
    exact ⟨⟨_, rfl, rfl⟩, rfl, by simp [sc_seen, hc1]⟩
  · have hc1 := gs_b1 hc1
    refine gx_aload_n dX5_seen_7 rfl ?_
    refine gx_get dX5_seen_8 gf_X5_13 (gs_g5 R ) (v := .ref (A 9 0 0)) (rfl) ?_
    refine gx_iload_n dX5_seen_11 rfl ?_
    refine gq_9 dX5_seen_12 R  (q := x.toNatClampNeg) ((gs_ixl (N := 4) rfl hc1 (by first | decide | (have := gw_n4 W; have := gw_cnt W; have := gw_fl W; omega))).1) ((gs_ixl (N := 4) rfl hc1 (by first | decide | (have := gw_n4 W; have := gw_cnt W; have := gw_fl W; omega))).2) (v := σ.2.1 20 x.toNatClampNeg 0) (rfl) ?_
    refine gx_goto dX5_seen_13 (tgt := 17) (by decide) ?_
    refine gx_ireturn dX5_seen_17 ?_
    exact ⟨⟨_, rfl, rfl⟩, rfl, by simp [sc_seen, hc1]⟩
set_option maxHeartbeats 4000000 in
theorem cc_X5_clock {S : gx_S} {h : gx_H} {σ : gs_T} {A : gs_A} (R : gs_R h σ A) (W : gw_W σ) (x : Int32) : gx_Cn S gm_X5_clock 2 [.ref (A 5 0 0), .int x] h (fun r h' => h' = h ∧ r = some (.int (sc_clock σ x))) := by
  refine gx_Cn.of gt_X5_clock (by simp [Value.category]) (Nat.le_of_ble_eq_true rfl) ?_
  show gx_Ev S gm_X5_clock 2 0 [some (.ref (A 5 0 0)), some (.int x)] [] h _
  refine gx_aload_n dX5_clock_0 rfl ?_
  refine gx_iload_n dX5_clock_1 rfl ?_
  refine gx_invV dX5_clock_2 wm_X5_92 gt_X5_isGroup wy_X5_isGroup wl_X5_isGroup (ci := 5) rfl rfl (gs_g5 R ) (As := [.int x]) (rest := []) rfl rfl (Nat.le_of_ble_eq_true rfl) (by decide) (cc_X5_isGroup R x) (fun r1 h q1 => ?_)
  obtain ⟨rfl, rfl⟩ := q1
  show gx_Ev _ _ _ _ _ [.int (gs_bi (0 ≤ x ∧ x < nI (σ.1 0 0 0)))] _ _
  refine gx_if_eq dX5_clock_5 (tgt := 20) (by decide) (fun hc1 => ?_) (fun hc1 => ?_)
  · have hc1 := gs_b0 hc1
    refine gx_iconst dX5_clock_20 (v := (-1)) (by decide) ?_
    refine gx_ireturn dX5_clock_21 ?_
    exact ⟨⟨_, rfl, rfl⟩, rfl, by simp [sc_clock, hc1]⟩
  · have hc1 := gs_b1 hc1
    refine gx_aload_n dX5_clock_8 rfl ?_
    refine gx_get dX5_clock_9 gf_X5_46 (gs_g5 R ) (v := .ref (A 7 0 0)) (rfl) ?_
    refine gx_iload_n dX5_clock_12 rfl ?_
    refine gr_7 dX5_clock_13 R (q := x.toNatClampNeg) (gs_ixl (N := σ.1 0 0 0) rfl hc1 (by first | decide | (have := gw_n4 W; have := gw_cnt W; have := gw_fl W; omega))).1 (gs_ixl (N := σ.1 0 0 0) rfl hc1 (by first | decide | (have := gw_n4 W; have := gw_cnt W; have := gw_fl W; omega))).2 (by have := gw_n4 W; omega) (gw_g W (gs_ixl (N := σ.1 0 0 0) rfl hc1 (by first | decide | (have := gw_n4 W; have := gw_cnt W; have := gw_fl W; omega))).2) ?_
    refine gx_get dX5_clock_14 gf_X5_168 (gs_g1 R (gw_g W (gs_ixl (N := σ.1 0 0 0) rfl hc1 (by first | decide | (have := gw_n4 W; have := gw_cnt W; have := gw_fl W; omega))).2)) (v := .int (σ.2.1 7 x.toNatClampNeg 0)) (rfl) ?_
    refine gx_goto dX5_clock_17 (tgt := 21) (by decide) ?_
    refine gx_ireturn dX5_clock_21 ?_
    exact ⟨⟨_, rfl, rfl⟩, rfl, by simp [sc_clock, hc1]⟩
set_option maxHeartbeats 4000000 in
theorem cc_X5_answered {S : gx_S} {h : gx_H} {σ : gs_T} {A : gs_A} (R : gs_R h σ A) (W : gw_W σ) (x : Int32) : gx_Cn S gm_X5_answered 2 [.ref (A 5 0 0), .int x] h (fun r h' => h' = h ∧ r = some (.int (sc_answered σ x))) := by
  refine gx_Cn.of gt_X5_answered (by simp [Value.category]) (Nat.le_of_ble_eq_true rfl) ?_
  show gx_Ev S gm_X5_answered 2 0 [some (.ref (A 5 0 0)), some (.int x)] [] h _
  refine gx_aload_n dX5_answered_0 rfl ?_
  refine gx_iload_n dX5_answered_1 rfl ?_
  refine gx_invV dX5_answered_2 wm_X5_147 gt_X5_hasOrder wy_X5_hasOrder wl_X5_hasOrder (ci := 5) rfl rfl (gs_g5 R ) (As := [.int x]) (rest := []) rfl rfl (Nat.le_of_ble_eq_true rfl) (by decide) (cc_X5_hasOrder R x) (fun r1 h q1 => ?_)
  obtain ⟨rfl, rfl⟩ := q1
  show gx_Ev _ _ _ _ _ [.int (gs_bi (0 ≤ x ∧ x < nI (σ.1 1 0 0)))] _ _
  refine gx_if_eq dX5_answered_5 (tgt := 24) (by decide) (fun hc1 => ?_) (fun hc1 => ?_)
  · have hc1 := gs_b0 hc1
    refine gx_iconst dX5_answered_24 (v := 0) (by decide) ?_
    refine gx_ireturn dX5_answered_25 ?_
    exact ⟨⟨_, rfl, rfl⟩, rfl, by simp [sc_answered, hc1]⟩
  · have hc1 := gs_b1 hc1
    refine gx_aload_n dX5_answered_8 rfl ?_
    refine gx_get dX5_answered_9 gf_X5_18 (gs_g5 R ) (v := .ref (A 10 0 0)) (rfl) ?_
    refine gx_iload_n dX5_answered_12 rfl ?_
    refine gr_10 dX5_answered_13 R (q := x.toNatClampNeg) (gs_ixl (N := σ.1 1 0 0) rfl hc1 (by first | decide | (have := gw_n4 W; have := gw_cnt W; have := gw_fl W; omega))).1 (by have := (gs_ixl (N := σ.1 1 0 0) rfl hc1 (by first | decide | (have := gw_n4 W; have := gw_cnt W; have := gw_fl W; omega))).2; have := gw_cnt W; omega) (by decide) (gw_o W (gs_ixl (N := σ.1 1 0 0) rfl hc1 (by first | decide | (have := gw_n4 W; have := gw_cnt W; have := gw_fl W; omega))).2) ?_
    refine gx_get dX5_answered_14 gf_X5_150 (gs_g3 R (gw_o W (gs_ixl (N := σ.1 1 0 0) rfl hc1 (by first | decide | (have := gw_n4 W; have := gw_cnt W; have := gw_fl W; omega))).2)) (v := .int (σ.2.1 3 x.toNatClampNeg 0)) (rfl) ?_
    refine gx_if_eq dX5_answered_17 (tgt := 24) (by decide) (fun hc2 => ?_) (fun hc2 => ?_)
    · refine gx_iconst dX5_answered_24 (v := 0) (by decide) ?_
      refine gx_ireturn dX5_answered_25 ?_
      exact ⟨⟨_, rfl, rfl⟩, rfl, by simp [sc_answered, hc1, hc2]⟩
    · refine gx_iconst dX5_answered_20 (v := 1) (by decide) ?_
      refine gx_goto dX5_answered_21 (tgt := 25) (by decide) ?_
      refine gx_ireturn dX5_answered_25 ?_
      exact ⟨⟨_, rfl, rfl⟩, rfl, by simp [sc_answered, hc1, hc2]⟩
theorem sc_answered_in {σ : gs_T} {x : Int32} (h : ¬ sc_answered σ x = 0) : 0 ≤ x ∧ x < nI (σ.1 1 0 0) := by
  by_cases hp : 0 ≤ x ∧ x < nI (σ.1 1 0 0)
  · exact hp
  · rw [sc_answered, if_neg hp] at h
    exact absurd rfl h
set_option maxHeartbeats 4000000 in
theorem cc_X5_answer {S : gx_S} {h : gx_H} {σ : gs_T} {A : gs_A} (R : gs_R h σ A) (W : gw_W σ) (x : Int32) : gx_Cn S gm_X5_answer 3 [.ref (A 5 0 0), .int x] h (fun r h' => h' = h ∧ r = some (.int (sc_answer σ x))) := by
  refine gx_Cn.of gt_X5_answer (by simp [Value.category]) (Nat.le_of_ble_eq_true rfl) ?_
  show gx_Ev S gm_X5_answer 3 0 [some (.ref (A 5 0 0)), some (.int x)] [] h _
  refine gx_aload_n dX5_answer_0 rfl ?_
  refine gx_iload_n dX5_answer_1 rfl ?_
  refine gx_invV dX5_answer_2 wm_X5_141 gt_X5_answered wy_X5_answered wl_X5_answered (ci := 5) rfl rfl (gs_g5 R ) (As := [.int x]) (rest := []) rfl rfl (Nat.le_of_ble_eq_true rfl) (by decide) (cc_X5_answered R W x) (fun r1 h q1 => ?_)
  obtain ⟨rfl, rfl⟩ := q1
  show gx_Ev _ _ _ _ _ [.int (sc_answered σ x)] _ _
  refine gx_if_eq dX5_answer_5 (tgt := 20) (by decide) (fun hc1 => ?_) (fun hc1 => ?_)
  · refine gx_bipush dX5_answer_20 (v := (-2)) (by decide) ?_
    refine gx_ireturn dX5_answer_22 ?_
    exact ⟨⟨_, rfl, rfl⟩, rfl, by simp [sc_answer, hc1]⟩
  · refine gx_aload_n dX5_answer_8 rfl ?_
    refine gx_get dX5_answer_9 gf_X5_18 (gs_g5 R ) (v := .ref (A 10 0 0)) (rfl) ?_
    refine gx_iload_n dX5_answer_12 rfl ?_
    refine gr_10 dX5_answer_13 R (q := x.toNatClampNeg) (gs_ixl (N := σ.1 1 0 0) rfl (sc_answered_in hc1) (by first | decide | (have := gw_n4 W; have := gw_cnt W; have := gw_fl W; omega))).1 (by have := (gs_ixl (N := σ.1 1 0 0) rfl (sc_answered_in hc1) (by first | decide | (have := gw_n4 W; have := gw_cnt W; have := gw_fl W; omega))).2; have := gw_cnt W; omega) (by decide) (gw_o W (gs_ixl (N := σ.1 1 0 0) rfl (sc_answered_in hc1) (by first | decide | (have := gw_n4 W; have := gw_cnt W; have := gw_fl W; omega))).2) ?_
    refine gx_get dX5_answer_14 gf_X5_144 (gs_g3 R (gw_o W (gs_ixl (N := σ.1 1 0 0) rfl (sc_answered_in hc1) (by first | decide | (have := gw_n4 W; have := gw_cnt W; have := gw_fl W; omega))).2)) (v := .int (σ.2.1 4 x.toNatClampNeg 0)) (rfl) ?_
    refine gx_goto dX5_answer_17 (tgt := 22) (by decide) ?_
    refine gx_ireturn dX5_answer_22 ?_
    exact ⟨⟨_, rfl, rfl⟩, rfl, by simp [sc_answer, hc1]⟩
set_option maxHeartbeats 4000000 in
theorem cc_X5_flying {S : gx_S} {h : gx_H} {σ : gs_T} {A : gs_A} (R : gs_R h σ A) : gx_Cn S gm_X5_flying 1 [.ref (A 5 0 0)] h (fun r h' => h' = h ∧ r = some (.int (nI (σ.1 2 0 0)))) := by
  refine gx_Cn.of gt_X5_flying (by simp [Value.category]) (Nat.le_of_ble_eq_true rfl) ?_
  show gx_Ev S gm_X5_flying 1 0 [some (.ref (A 5 0 0))] [] h _
  refine gx_aload_n dX5_flying_0 rfl ?_
  refine gx_get dX5_flying_1 gf_X5_25 (gs_g5 R ) (v := .ref (A 0 0 0)) (rfl) ?_
  refine gx_get dX5_flying_4 gf_X5_131 (gs_g0 R ) (v := .int (nI (σ.1 2 0 0))) (rfl) ?_
  refine gx_ireturn dX5_flying_7 ?_
  exact ⟨⟨_, rfl, rfl⟩, rfl, rfl⟩
set_option maxHeartbeats 4000000 in
theorem cc_X5_taken {S : gx_S} {h : gx_H} {σ : gs_T} {A : gs_A} (R : gs_R h σ A) (W : gw_W σ) (x y : Int32) : gx_Cn S gm_X5_taken 2 [.ref (A 5 0 0), .int x, .int y] h (fun r h' => h' = h ∧ r = some (.int (sc_taken σ x y))) := by
  refine gx_Cn.of gt_X5_taken (by simp [Value.category]) (Nat.le_of_ble_eq_true rfl) ?_
  show gx_Ev S gm_X5_taken 2 0 [some (.ref (A 5 0 0)), some (.int x), some (.int y)] [] h _
  refine gx_aload_n dX5_taken_0 rfl ?_
  refine gx_iload_n dX5_taken_1 rfl ?_
  refine gx_invV dX5_taken_2 wm_X5_92 gt_X5_isGroup wy_X5_isGroup wl_X5_isGroup (ci := 5) rfl rfl (gs_g5 R ) (As := [.int x]) (rest := []) rfl rfl (Nat.le_of_ble_eq_true rfl) (by decide) (cc_X5_isGroup R x) (fun r1 h q1 => ?_)
  obtain ⟨rfl, rfl⟩ := q1
  show gx_Ev _ _ _ _ _ [.int (gs_bi (0 ≤ x ∧ x < nI (σ.1 0 0 0)))] _ _
  refine gx_if_eq dX5_taken_5 (tgt := 25) (by decide) (fun hc1 => ?_) (fun hc1 => ?_)
  · have hc1 := gs_b0 hc1
    refine gx_iconst dX5_taken_25 (v := (-1)) (by decide) ?_
    refine gx_ireturn dX5_taken_26 ?_
    exact ⟨⟨_, rfl, rfl⟩, rfl, by simp [sc_taken, hc1]⟩
  · have hc1 := gs_b1 hc1
    refine gx_iload_n dX5_taken_8 rfl ?_
    refine gx_if_lt dX5_taken_9 (tgt := 25) (by decide) (fun hc2 => ?_) (fun hc2 => ?_)
    · refine gx_iconst dX5_taken_25 (v := (-1)) (by decide) ?_
      refine gx_ireturn dX5_taken_26 ?_
      exact ⟨⟨_, rfl, rfl⟩, rfl, by simp only [sc_taken]; rw [if_pos hc1, if_neg (fun z => Int32.not_lt.mpr z.1 hc2)]⟩
    · refine gx_iload_n dX5_taken_12 rfl ?_
      refine gx_aload_n dX5_taken_13 rfl ?_
      refine gx_get dX5_taken_14 gf_X5_46 (gs_g5 R ) (v := .ref (A 7 0 0)) (rfl) ?_
      refine gx_iload_n dX5_taken_17 rfl ?_
      refine gr_7 dX5_taken_18 R (q := x.toNatClampNeg) (gs_ixl (N := σ.1 0 0 0) rfl hc1 (by first | decide | (have := gw_n4 W; have := gw_cnt W; have := gw_fl W; omega))).1 (gs_ixl (N := σ.1 0 0 0) rfl hc1 (by first | decide | (have := gw_n4 W; have := gw_cnt W; have := gw_fl W; omega))).2 (by have := gw_n4 W; omega) (gw_g W (gs_ixl (N := σ.1 0 0 0) rfl hc1 (by first | decide | (have := gw_n4 W; have := gw_cnt W; have := gw_fl W; omega))).2) ?_
      refine gx_get dX5_taken_19 gf_X5_134 (gs_g1 R (gw_g W (gs_ixl (N := σ.1 0 0 0) rfl hc1 (by first | decide | (have := gw_n4 W; have := gw_cnt W; have := gw_fl W; omega))).2)) (v := .int (nI (σ.1 3 x.toNatClampNeg 0))) (rfl) ?_
      refine gx_icmp_lt dX5_taken_22 (tgt := 27) (by decide) (fun hc3 => ?_) (fun hc3 => ?_)
      · refine gx_aload_n dX5_taken_27 rfl ?_
        refine gx_get dX5_taken_28 gf_X5_46 (gs_g5 R ) (v := .ref (A 7 0 0)) (rfl) ?_
        refine gx_iload_n dX5_taken_31 rfl ?_
        refine gr_7 dX5_taken_32 R (q := x.toNatClampNeg) (gs_ixl (N := σ.1 0 0 0) rfl hc1 (by first | decide | (have := gw_n4 W; have := gw_cnt W; have := gw_fl W; omega))).1 (gs_ixl (N := σ.1 0 0 0) rfl hc1 (by first | decide | (have := gw_n4 W; have := gw_cnt W; have := gw_fl W; omega))).2 (by have := gw_n4 W; omega) (gw_g W (gs_ixl (N := σ.1 0 0 0) rfl hc1 (by first | decide | (have := gw_n4 W; have := gw_cnt W; have := gw_fl W; omega))).2) ?_
        refine gx_get dX5_taken_33 gf_X5_137 (gs_g1 R (gw_g W (gs_ixl (N := σ.1 0 0 0) rfl hc1 (by first | decide | (have := gw_n4 W; have := gw_cnt W; have := gw_fl W; omega))).2)) (v := .ref (A 14 x.toNatClampNeg 0)) (rfl) ?_
        refine gx_iload_n dX5_taken_36 rfl ?_
        obtain ⟨e, he⟩ := gw_tn W (gs_ixl (N := σ.1 0 0 0) rfl hc1 (by first | decide | (have := gw_n4 W; have := gw_cnt W; have := gw_fl W; omega))).2 (gs_ixl (N := σ.1 3 x.toNatClampNeg 0) rfl ⟨gs_nlt hc2, hc3⟩ (by have := gw_tc W x.toNatClampNeg; omega)).2
        refine gr_14 dX5_taken_37 R (gw_g W (gs_ixl (N := σ.1 0 0 0) rfl hc1 (by first | decide | (have := gw_n4 W; have := gw_cnt W; have := gw_fl W; omega))).2) (q := y.toNatClampNeg) (o := e) (gs_ixl (N := σ.1 3 x.toNatClampNeg 0) rfl ⟨gs_nlt hc2, hc3⟩ (by have := gw_tc W x.toNatClampNeg; omega)).1 (by have := (gs_ixl (N := σ.1 3 x.toNatClampNeg 0) rfl ⟨gs_nlt hc2, hc3⟩ (by have := gw_tc W x.toNatClampNeg; omega)).2; have := gw_tc W x.toNatClampNeg; omega) (by decide) he ?_
        refine gx_get dX5_taken_38 gf_X5_116 (gs_g4 R (gw_tp W he)) (v := .ref (A 3 e 0)) (rfl) ?_
        refine gx_get dX5_taken_41 gf_X5_85 (gs_g3 R (gw_o W (gw_p W (gw_tp W he)).2)) (v := .int (nI e)) (rfl) ?_
        refine gx_ireturn dX5_taken_44 ?_
        exact ⟨⟨_, rfl, rfl⟩, rfl, by simp only [sc_taken]; rw [if_pos hc1, if_pos ⟨gs_nlt hc2, hc3⟩, he]; rfl⟩
      · refine gx_iconst dX5_taken_25 (v := (-1)) (by decide) ?_
        refine gx_ireturn dX5_taken_26 ?_
        exact ⟨⟨_, rfl, rfl⟩, rfl, by simp only [sc_taken]; rw [if_pos hc1, if_neg (fun z => hc3 z.2)]⟩
def sc_up (σ : gs_T) (x b : Int32) : gs_T := if 0 ≤ x ∧ x < nI (σ.1 0 0 0) then gs_i σ 6 x.toNatClampNeg 0 b else σ
set_option maxHeartbeats 4000000 in
theorem cc_X5_up {S : gx_S} {h : gx_H} {σ : gs_T} {A : gs_A} (R : gs_R h σ A) (W : gw_W σ) (x b : Int32) (hb : b = 0 ∨ b = 1) : gx_Cn S gm_X5_up 2 [.ref (A 5 0 0), .int x, .int b] h (fun r h' => gs_R h' (sc_up σ x b) A ∧ gs_sm h h' ∧ r = some (.int (gs_bi (0 ≤ x ∧ x < nI (σ.1 0 0 0))))) := by
  refine gx_Cn.of gt_X5_up (by simp [Value.category]) (Nat.le_of_ble_eq_true rfl) ?_
  show gx_Ev S gm_X5_up 2 0 [some (.ref (A 5 0 0)), some (.int x), some (.int b)] [] h _
  refine gx_aload_n dX5_up_0 rfl ?_
  refine gx_iload_n dX5_up_1 rfl ?_
  refine gx_invV dX5_up_2 wm_X5_92 gt_X5_isGroup wy_X5_isGroup wl_X5_isGroup (ci := 5) rfl rfl (gs_g5 R ) (As := [.int x]) (rest := []) rfl rfl (Nat.le_of_ble_eq_true rfl) (by decide) (cc_X5_isGroup R x) (fun r1 h q1 => ?_)
  obtain ⟨rfl, rfl⟩ := q1
  show gx_Ev _ _ _ _ _ [.int (gs_bi (0 ≤ x ∧ x < nI (σ.1 0 0 0)))] _ _
  refine gx_if_ne dX5_up_5 (tgt := 10) (by decide) (fun hc1 => ?_) (fun hc1 => ?_)
  · have hc1 := gs_b1 hc1
    refine gx_aload_n dX5_up_10 rfl ?_
    refine gx_get dX5_up_11 gf_X5_46 (gs_g5 R ) (v := .ref (A 7 0 0)) (rfl) ?_
    refine gx_iload_n dX5_up_14 rfl ?_
    refine gr_7 dX5_up_15 R (q := x.toNatClampNeg) (gs_ixl (N := σ.1 0 0 0) rfl hc1 (by first | decide | (have := gw_n4 W; have := gw_cnt W; have := gw_fl W; omega))).1 (gs_ixl (N := σ.1 0 0 0) rfl hc1 (by first | decide | (have := gw_n4 W; have := gw_cnt W; have := gw_fl W; omega))).2 (by have := gw_n4 W; omega) (gw_g W (gs_ixl (N := σ.1 0 0 0) rfl hc1 (by first | decide | (have := gw_n4 W; have := gw_cnt W; have := gw_fl W; omega))).2) ?_
    refine gx_iload_n dX5_up_16 rfl ?_
    refine gp_I6 (σ := σ) (gw_g W (gs_ixl (N := σ.1 0 0 0) rfl hc1 (by first | decide | (have := gw_n4 W; have := gw_cnt W; have := gw_fl W; omega))).2) dX5_up_17 gf_X5_96 R hb (v := b) (fun h R hs0 => ?_)
    refine gx_iconst dX5_up_20 (v := 1) (by decide) ?_
    refine gx_ireturn dX5_up_21 ?_
    exact ⟨⟨_, rfl, rfl⟩, by rw [sc_up, if_pos hc1]; exact R, hs0, congrArg (fun z => some (Value.int z)) (gs_bt hc1)⟩
  · have hc1 := gs_b0 hc1
    refine gx_iconst dX5_up_8 (v := 0) (by decide) ?_
    refine gx_ireturn dX5_up_9 ?_
    exact ⟨⟨_, rfl, rfl⟩, by rw [sc_up, if_neg hc1]; exact R, ⟨rfl, rfl⟩, congrArg (fun z => some (Value.int z)) (gs_bf hc1)⟩
set_option maxHeartbeats 4000000 in
theorem cc_X5_time {S : gx_S} {h : gx_H} {σ : gs_T} {A : gs_A} (R : gs_R h σ A) (W : gw_W σ) (x y z : Int32) : gx_Cn S gm_X5_time 2 [.ref (A 5 0 0), .int x, .int y, .int z] h (fun r h' => h' = h ∧ r = some (.int (sc_time σ x y z))) := by
  refine gx_Cn.of gt_X5_time (by simp [Value.category]) (Nat.le_of_ble_eq_true rfl) ?_
  show gx_Ev S gm_X5_time 2 0 [some (.ref (A 5 0 0)), some (.int x), some (.int y), some (.int z), none] [] h _
  by_cases hex : σ.1 6 y.toNatClampNeg x.toNatClampNeg = 1
  · refine gx_aload_n dX5_time_0 rfl ?_
    refine gx_iload_n dX5_time_1 rfl ?_
    refine gx_invV dX5_time_2 wm_X5_147 gt_X5_hasOrder wy_X5_hasOrder wl_X5_hasOrder (ci := 5) rfl rfl (gs_g5 R ) (As := [.int x]) (rest := []) rfl rfl (Nat.le_of_ble_eq_true rfl) (by decide) (cc_X5_hasOrder R x) (fun r1 h q1 => ?_)
    obtain ⟨rfl, rfl⟩ := q1
    show gx_Ev _ _ _ _ _ [.int (gs_bi (0 ≤ x ∧ x < nI (σ.1 1 0 0)))] _ _
    refine gx_if_eq dX5_time_5 (tgt := 16) (by decide) (fun hc1 => ?_) (fun hc1 => ?_)
    · have hc1 := gs_b0 hc1
      refine gx_iconst dX5_time_16 (v := (-1)) (by decide) ?_
      refine gx_ireturn dX5_time_17 ?_
      exact ⟨⟨_, rfl, rfl⟩, rfl, by simp [sc_time, hex, hc1]⟩
    · have hc1 := gs_b1 hc1
      refine gx_aload_n dX5_time_8 rfl ?_
      refine gx_iload_n dX5_time_9 rfl ?_
      refine gx_invV dX5_time_10 wm_X5_92 gt_X5_isGroup wy_X5_isGroup wl_X5_isGroup (ci := 5) rfl rfl (gs_g5 R ) (As := [.int y]) (rest := []) rfl rfl (Nat.le_of_ble_eq_true rfl) (by decide) (cc_X5_isGroup R y) (fun r1 h q1 => ?_)
      obtain ⟨rfl, rfl⟩ := q1
      show gx_Ev _ _ _ _ _ [.int (gs_bi (0 ≤ y ∧ y < nI (σ.1 0 0 0)))] _ _
      refine gx_if_ne dX5_time_13 (tgt := 18) (by decide) (fun hc2 => ?_) (fun hc2 => ?_)
      · have hc2 := gs_b1 hc2
        refine gx_aload_n dX5_time_18 rfl ?_
        refine gx_get dX5_time_19 gf_X5_46 (gs_g5 R ) (v := .ref (A 7 0 0)) (rfl) ?_
        refine gx_iload_n dX5_time_22 rfl ?_
        refine gr_7 dX5_time_23 R (q := y.toNatClampNeg) (gs_ixl (N := σ.1 0 0 0) rfl hc2 (by first | decide | (have := gw_n4 W; have := gw_cnt W; have := gw_fl W; omega))).1 (gs_ixl (N := σ.1 0 0 0) rfl hc2 (by first | decide | (have := gw_n4 W; have := gw_cnt W; have := gw_fl W; omega))).2 (by have := gw_n4 W; omega) (gw_g W (gs_ixl (N := σ.1 0 0 0) rfl hc2 (by first | decide | (have := gw_n4 W; have := gw_cnt W; have := gw_fl W; omega))).2) ?_
        refine gx_get dX5_time_24 gf_X5_153 (gs_g1 R (gw_g W (gs_ixl (N := σ.1 0 0 0) rfl hc2 (by first | decide | (have := gw_n4 W; have := gw_cnt W; have := gw_fl W; omega))).2)) (v := .ref (A 13 y.toNatClampNeg 0)) (rfl) ?_
        refine gx_iload_n dX5_time_27 rfl ?_
        refine gr_13 dX5_time_28 R (gw_g W (gs_ixl (N := σ.1 0 0 0) rfl hc2 (by first | decide | (have := gw_n4 W; have := gw_cnt W; have := gw_fl W; omega))).2) (q := x.toNatClampNeg) (gs_ixl (N := σ.1 1 0 0) rfl hc1 (by first | decide | (have := gw_n4 W; have := gw_cnt W; have := gw_fl W; omega))).1 (by have := (gs_ixl (N := σ.1 1 0 0) rfl hc1 (by first | decide | (have := gw_n4 W; have := gw_cnt W; have := gw_fl W; omega))).2; have := gw_cnt W; omega) (by decide) hex ?_
        refine gx_astore dX5_time_29 (by decide) rfl (L' := [some (.ref (A 5 0 0)), some (.int x), some (.int y), some (.int z), some (.ref (A 4 y.toNatClampNeg x.toNatClampNeg))]) rfl ?_
        refine gx_iload_n dX5_time_31 rfl ?_
        by_cases t0 : z = 0
        · subst t0
          refine gx_tableIn dX5_time_32 (by decide) (by decide) (off := 28) (by decide) (tgt := 60) (by decide) ?_
          refine gx_aload dX5_time_60 rfl ?_
          refine gx_ifnull dX5_time_62 ?_
          refine gx_aload dX5_time_65 rfl ?_
          refine gx_get dX5_time_67 gf_X5_156 (gs_g4 R hex) (v := .int (σ.2.1 8 y.toNatClampNeg x.toNatClampNeg)) (rfl) ?_
          refine gx_goto dX5_time_70 (tgt := 74) (by decide) ?_
          refine gx_ireturn dX5_time_74 ?_
          exact ⟨⟨_, rfl, rfl⟩, rfl, by simp [sc_time, hex, hc1, hc2]⟩
        · by_cases t1 : z = 1
          · subst t1
            refine gx_tableIn dX5_time_32 (by decide) (by decide) (off := 43) (by decide) (tgt := 75) (by decide) ?_
            refine gx_aload dX5_time_75 rfl ?_
            refine gx_ifnull dX5_time_77 ?_
            refine gx_aload dX5_time_80 rfl ?_
            refine gx_get dX5_time_82 gf_X5_159 (gs_g4 R hex) (v := .int (σ.2.1 10 y.toNatClampNeg x.toNatClampNeg)) (rfl) ?_
            refine gx_goto dX5_time_85 (tgt := 89) (by decide) ?_
            refine gx_ireturn dX5_time_89 ?_
            exact ⟨⟨_, rfl, rfl⟩, rfl, by simp [sc_time, hex, hc1, hc2]⟩
          · by_cases t2 : z = 2
            · subst t2
              refine gx_tableIn dX5_time_32 (by decide) (by decide) (off := 58) (by decide) (tgt := 90) (by decide) ?_
              refine gx_aload dX5_time_90 rfl ?_
              refine gx_ifnull dX5_time_92 ?_
              refine gx_aload dX5_time_95 rfl ?_
              refine gx_get dX5_time_97 gf_X5_162 (gs_g4 R hex) (v := .int (σ.2.1 15 y.toNatClampNeg x.toNatClampNeg)) (rfl) ?_
              refine gx_if_eq dX5_time_100 (tgt := 107) (by decide) (fun hw => ?_) (fun hw => ?_)
              · refine gx_iconst dX5_time_107 (v := 0) (by decide) ?_
                refine gx_ireturn dX5_time_108 ?_
                exact ⟨⟨_, rfl, rfl⟩, rfl, by simp [sc_time, hex, hc1, hc2, hw]⟩
              · refine gx_iconst dX5_time_103 (v := 1) (by decide) ?_
                refine gx_goto dX5_time_104 (tgt := 108) (by decide) ?_
                refine gx_ireturn dX5_time_108 ?_
                exact ⟨⟨_, rfl, rfl⟩, rfl, by simp [sc_time, hex, hc1, hc2, hw]⟩
            · refine gx_tableOut dX5_time_32 (gs_swout (N := 2) (by decide) (fun k hk => by rcases (by omega : k = 0 ∨ k = 1 ∨ k = 2) with rfl | rfl | rfl <;> first | exact t0 | exact t1 | exact t2)) (tgt := 109) (by decide) ?_
              refine gx_iconst dX5_time_109 (v := (-1)) (by decide) ?_
              refine gx_ireturn dX5_time_110 ?_
              exact ⟨⟨_, rfl, rfl⟩, rfl, by simp [sc_time, hex, hc1, hc2, t0, t1, t2]⟩
      · have hc2 := gs_b0 hc2
        refine gx_iconst dX5_time_16 (v := (-1)) (by decide) ?_
        refine gx_ireturn dX5_time_17 ?_
        exact ⟨⟨_, rfl, rfl⟩, rfl, by simp [sc_time, hex, hc1, hc2]⟩
  · refine gx_aload_n dX5_time_0 rfl ?_
    refine gx_iload_n dX5_time_1 rfl ?_
    refine gx_invV dX5_time_2 wm_X5_147 gt_X5_hasOrder wy_X5_hasOrder wl_X5_hasOrder (ci := 5) rfl rfl (gs_g5 R ) (As := [.int x]) (rest := []) rfl rfl (Nat.le_of_ble_eq_true rfl) (by decide) (cc_X5_hasOrder R x) (fun r1 h q1 => ?_)
    obtain ⟨rfl, rfl⟩ := q1
    show gx_Ev _ _ _ _ _ [.int (gs_bi (0 ≤ x ∧ x < nI (σ.1 1 0 0)))] _ _
    refine gx_if_eq dX5_time_5 (tgt := 16) (by decide) (fun hc1 => ?_) (fun hc1 => ?_)
    · have hc1 := gs_b0 hc1
      refine gx_iconst dX5_time_16 (v := (-1)) (by decide) ?_
      refine gx_ireturn dX5_time_17 ?_
      exact ⟨⟨_, rfl, rfl⟩, rfl, by simp [sc_time, hex, hc1]⟩
    · have hc1 := gs_b1 hc1
      refine gx_aload_n dX5_time_8 rfl ?_
      refine gx_iload_n dX5_time_9 rfl ?_
      refine gx_invV dX5_time_10 wm_X5_92 gt_X5_isGroup wy_X5_isGroup wl_X5_isGroup (ci := 5) rfl rfl (gs_g5 R ) (As := [.int y]) (rest := []) rfl rfl (Nat.le_of_ble_eq_true rfl) (by decide) (cc_X5_isGroup R y) (fun r1 h q1 => ?_)
      obtain ⟨rfl, rfl⟩ := q1
      show gx_Ev _ _ _ _ _ [.int (gs_bi (0 ≤ y ∧ y < nI (σ.1 0 0 0)))] _ _
      refine gx_if_ne dX5_time_13 (tgt := 18) (by decide) (fun hc2 => ?_) (fun hc2 => ?_)
      · have hc2 := gs_b1 hc2
        refine gx_aload_n dX5_time_18 rfl ?_
        refine gx_get dX5_time_19 gf_X5_46 (gs_g5 R ) (v := .ref (A 7 0 0)) (rfl) ?_
        refine gx_iload_n dX5_time_22 rfl ?_
        refine gr_7 dX5_time_23 R (q := y.toNatClampNeg) (gs_ixl (N := σ.1 0 0 0) rfl hc2 (by first | decide | (have := gw_n4 W; have := gw_cnt W; have := gw_fl W; omega))).1 (gs_ixl (N := σ.1 0 0 0) rfl hc2 (by first | decide | (have := gw_n4 W; have := gw_cnt W; have := gw_fl W; omega))).2 (by have := gw_n4 W; omega) (gw_g W (gs_ixl (N := σ.1 0 0 0) rfl hc2 (by first | decide | (have := gw_n4 W; have := gw_cnt W; have := gw_fl W; omega))).2) ?_
        refine gx_get dX5_time_24 gf_X5_153 (gs_g1 R (gw_g W (gs_ixl (N := σ.1 0 0 0) rfl hc2 (by first | decide | (have := gw_n4 W; have := gw_cnt W; have := gw_fl W; omega))).2)) (v := .ref (A 13 y.toNatClampNeg 0)) (rfl) ?_
        refine gx_iload_n dX5_time_27 rfl ?_
        refine gr_13N dX5_time_28 R (gw_g W (gs_ixl (N := σ.1 0 0 0) rfl hc2 (by first | decide | (have := gw_n4 W; have := gw_cnt W; have := gw_fl W; omega))).2) (q := x.toNatClampNeg) (gs_ixl (N := σ.1 1 0 0) rfl hc1 (by first | decide | (have := gw_n4 W; have := gw_cnt W; have := gw_fl W; omega))).1 (by have := (gs_ixl (N := σ.1 1 0 0) rfl hc1 (by first | decide | (have := gw_n4 W; have := gw_cnt W; have := gw_fl W; omega))).2; have := gw_cnt W; omega) (by decide) hex ?_
        refine gx_astoreN dX5_time_29 (by decide) rfl (L' := [some (.ref (A 5 0 0)), some (.int x), some (.int y), some (.int z), some (.null)]) rfl ?_
        refine gx_iload_n dX5_time_31 rfl ?_
        by_cases t0 : z = 0
        · subst t0
          refine gx_tableIn dX5_time_32 (by decide) (by decide) (off := 28) (by decide) (tgt := 60) (by decide) ?_
          refine gx_aloadN dX5_time_60 rfl ?_
          refine gx_ifnullN dX5_time_62 (tgt := 73) (by decide) ?_
          refine gx_iconst dX5_time_73 (v := (-1)) (by decide) ?_
          refine gx_ireturn dX5_time_74 ?_
          exact ⟨⟨_, rfl, rfl⟩, rfl, by simp [sc_time, hex, hc1, hc2]⟩
        · by_cases t1 : z = 1
          · subst t1
            refine gx_tableIn dX5_time_32 (by decide) (by decide) (off := 43) (by decide) (tgt := 75) (by decide) ?_
            refine gx_aloadN dX5_time_75 rfl ?_
            refine gx_ifnullN dX5_time_77 (tgt := 88) (by decide) ?_
            refine gx_iconst dX5_time_88 (v := (-1)) (by decide) ?_
            refine gx_ireturn dX5_time_89 ?_
            exact ⟨⟨_, rfl, rfl⟩, rfl, by simp [sc_time, hex, hc1, hc2]⟩
          · by_cases t2 : z = 2
            · subst t2
              refine gx_tableIn dX5_time_32 (by decide) (by decide) (off := 58) (by decide) (tgt := 90) (by decide) ?_
              refine gx_aloadN dX5_time_90 rfl ?_
              refine gx_ifnullN dX5_time_92 (tgt := 107) (by decide) ?_
              refine gx_iconst dX5_time_107 (v := 0) (by decide) ?_
              refine gx_ireturn dX5_time_108 ?_
              exact ⟨⟨_, rfl, rfl⟩, rfl, by simp [sc_time, hex, hc1, hc2]⟩
            · refine gx_tableOut dX5_time_32 (gs_swout (N := 2) (by decide) (fun k hk => by rcases (by omega : k = 0 ∨ k = 1 ∨ k = 2) with rfl | rfl | rfl <;> first | exact t0 | exact t1 | exact t2)) (tgt := 109) (by decide) ?_
              refine gx_iconst dX5_time_109 (v := (-1)) (by decide) ?_
              refine gx_ireturn dX5_time_110 ?_
              exact ⟨⟨_, rfl, rfl⟩, rfl, by simp [sc_time, hex, hc1, hc2, t0, t1, t2]⟩
      · have hc2 := gs_b0 hc2
        refine gx_iconst dX5_time_16 (v := (-1)) (by decide) ?_
        refine gx_ireturn dX5_time_17 ?_
        exact ⟨⟨_, rfl, rfl⟩, rfl, by simp [sc_time, hex, hc1, hc2]⟩
set_option maxHeartbeats 4000000 in
theorem cc_X5_flight {S : gx_S} {h : gx_H} {σ : gs_T} {A : gs_A} (R : gs_R h σ A) (W : gw_W σ) (x z : Int32) : gx_Cn S gm_X5_flight 2 [.ref (A 5 0 0), .int x, .int z] h (fun r h' => h' = h ∧ r = some (.int (sc_flight σ x z))) := by
  refine gx_Cn.of gt_X5_flight (by simp [Value.category]) (Nat.le_of_ble_eq_true rfl) ?_
  show gx_Ev S gm_X5_flight 2 0 [some (.ref (A 5 0 0)), some (.int x), some (.int z), none] [] h _
  refine gx_aload_n dX5_flight_0 rfl ?_
  refine gx_get dX5_flight_1 gf_X5_25 (gs_g5 R ) (v := .ref (A 0 0 0)) (rfl) ?_
  refine gx_iload_n dX5_flight_4 rfl ?_
  refine gx_invV dX5_flight_5 wm_X5_100 gt_X0_has wy_X0_has wl_X0_has (ci := 0) rfl rfl (gs_g0 R ) (As := [.int x]) (rest := []) rfl rfl (Nat.le_of_ble_eq_true rfl) (by decide) (cc_X0_has R x) (fun r1 h q1 => ?_)
  obtain ⟨rfl, rfl⟩ := q1
  show gx_Ev _ _ _ _ _ [.int (gs_bi (0 ≤ x ∧ x < nI (σ.1 2 0 0)))] _ _
  refine gx_if_ne dX5_flight_8 (tgt := 13) (by decide) (fun hc1 => ?_) (fun hc1 => ?_)
  · have hc1 := gs_b1 hc1
    refine gx_aload_n dX5_flight_13 rfl ?_
    refine gx_get dX5_flight_14 gf_X5_25 (gs_g5 R ) (v := .ref (A 0 0 0)) (rfl) ?_
    refine gx_get dX5_flight_17 gf_X5_103 (gs_g0 R ) (v := .ref (A 15 0 0)) (rfl) ?_
    refine gx_iload_n dX5_flight_20 rfl ?_
    refine gr_15 dX5_flight_21 R (q := x.toNatClampNeg) (gs_ixl (N := σ.1 2 0 0) rfl hc1 (by first | decide | (have := gw_n4 W; have := gw_cnt W; have := gw_fl W; omega))).1 (by have := (gs_ixl (N := σ.1 2 0 0) rfl hc1 (by first | decide | (have := gw_n4 W; have := gw_cnt W; have := gw_fl W; omega))).2; have := gw_fl W; omega) (by decide) (gw_m W (gs_ixl (N := σ.1 2 0 0) rfl hc1 (by first | decide | (have := gw_n4 W; have := gw_cnt W; have := gw_fl W; omega))).2) ?_
    refine gx_astore_n dX5_flight_22 (by decide) rfl (L' := [some (.ref (A 5 0 0)), some (.int x), some (.int z), some (.ref (σ.1 18 x.toNatClampNeg 0))]) rfl ?_
    refine gx_iload_n dX5_flight_23 rfl ?_
    by_cases t0 : z = 0
    · subst t0
      refine gx_tableIn dX5_flight_24 (by decide) (by decide) (off := 36) (by decide) (tgt := 60) (by decide) ?_
      refine gx_aload_n dX5_flight_60 rfl ?_
      refine gx_get dX5_flight_61 gf_X5_107 (gs_g2 R (gw_m W (gs_ixl (N := σ.1 2 0 0) rfl hc1 (by first | decide | (have := gw_n4 W; have := gw_cnt W; have := gw_fl W; omega))).2)) (v := .int (σ.2.1 16 x.toNatClampNeg 0)) (rfl) ?_
      refine gx_ireturn dX5_flight_64 ?_
      exact ⟨⟨_, rfl, rfl⟩, rfl, by simp [sc_flight, hc1]⟩
    · by_cases t1 : z = 1
      · subst t1
        refine gx_tableIn dX5_flight_24 (by decide) (by decide) (off := 41) (by decide) (tgt := 65) (by decide) ?_
        refine gx_aload_n dX5_flight_65 rfl ?_
        refine gx_get dX5_flight_66 gf_X5_112 (gs_g2 R (gw_m W (gs_ixl (N := σ.1 2 0 0) rfl hc1 (by first | decide | (have := gw_n4 W; have := gw_cnt W; have := gw_fl W; omega))).2)) (v := .ref (A 4 (σ.1 8 x.toNatClampNeg 0) (σ.1 9 x.toNatClampNeg 0))) (rfl) ?_
        refine gx_get dX5_flight_69 gf_X5_116 (gs_g4 R (gw_mp W (gw_m W (gs_ixl (N := σ.1 2 0 0) rfl hc1 (by first | decide | (have := gw_n4 W; have := gw_cnt W; have := gw_fl W; omega))).2))) (v := .ref (A 3 (σ.1 9 x.toNatClampNeg 0) 0)) (rfl) ?_
        refine gx_get dX5_flight_72 gf_X5_85 (gs_g3 R (gw_o W (gw_p W (gw_mp W (gw_m W (gs_ixl (N := σ.1 2 0 0) rfl hc1 (by first | decide | (have := gw_n4 W; have := gw_cnt W; have := gw_fl W; omega))).2))).2)) (v := .int (nI (σ.1 9 x.toNatClampNeg 0))) (rfl) ?_
        refine gx_ireturn dX5_flight_75 ?_
        exact ⟨⟨_, rfl, rfl⟩, rfl, by simp [sc_flight, hc1]⟩
      · by_cases t2 : z = 2
        · subst t2
          refine gx_tableIn dX5_flight_24 (by decide) (by decide) (off := 52) (by decide) (tgt := 76) (by decide) ?_
          refine gx_aload_n dX5_flight_76 rfl ?_
          refine gx_get dX5_flight_77 gf_X5_122 (gs_g2 R (gw_m W (gs_ixl (N := σ.1 2 0 0) rfl hc1 (by first | decide | (have := gw_n4 W; have := gw_cnt W; have := gw_fl W; omega))).2)) (v := .int (σ.2.1 17 x.toNatClampNeg 0)) (rfl) ?_
          refine gx_ireturn dX5_flight_80 ?_
          exact ⟨⟨_, rfl, rfl⟩, rfl, by simp [sc_flight, hc1]⟩
        · by_cases t3 : z = 3
          · subst t3
            refine gx_tableIn dX5_flight_24 (by decide) (by decide) (off := 57) (by decide) (tgt := 81) (by decide) ?_
            refine gx_aload_n dX5_flight_81 rfl ?_
            refine gx_get dX5_flight_82 gf_X5_112 (gs_g2 R (gw_m W (gs_ixl (N := σ.1 2 0 0) rfl hc1 (by first | decide | (have := gw_n4 W; have := gw_cnt W; have := gw_fl W; omega))).2)) (v := .ref (A 4 (σ.1 8 x.toNatClampNeg 0) (σ.1 9 x.toNatClampNeg 0))) (rfl) ?_
            refine gx_get dX5_flight_85 gf_X5_125 (gs_g4 R (gw_mp W (gw_m W (gs_ixl (N := σ.1 2 0 0) rfl hc1 (by first | decide | (have := gw_n4 W; have := gw_cnt W; have := gw_fl W; omega))).2))) (v := .int (nI (σ.1 8 x.toNatClampNeg 0))) (rfl) ?_
            refine gx_ireturn dX5_flight_88 ?_
            exact ⟨⟨_, rfl, rfl⟩, rfl, by simp [sc_flight, hc1]⟩
          · by_cases t4 : z = 4
            · subst t4
              refine gx_tableIn dX5_flight_24 (by decide) (by decide) (off := 65) (by decide) (tgt := 89) (by decide) ?_
              refine gx_aload_n dX5_flight_89 rfl ?_
              refine gx_get dX5_flight_90 gf_X5_107 (gs_g2 R (gw_m W (gs_ixl (N := σ.1 2 0 0) rfl hc1 (by first | decide | (have := gw_n4 W; have := gw_cnt W; have := gw_fl W; omega))).2)) (v := .int (σ.2.1 16 x.toNatClampNeg 0)) (rfl) ?_
              refine gx_iconst dX5_flight_93 (v := 1) (by decide) ?_
              refine gx_icmp_ne dX5_flight_94 (tgt := 104) (by decide) (fun hk => ?_) (fun hk => ?_)
              · refine gx_iconst dX5_flight_104 (v := (-1)) (by decide) ?_
                refine gx_ireturn dX5_flight_105 ?_
                exact ⟨⟨_, rfl, rfl⟩, rfl, by simp [sc_flight, hc1, hk]⟩
              · refine gx_aload_n dX5_flight_97 rfl ?_
                refine gx_get dX5_flight_98 gf_X5_128 (gs_g2 R (gw_m W (gs_ixl (N := σ.1 2 0 0) rfl hc1 (by first | decide | (have := gw_n4 W; have := gw_cnt W; have := gw_fl W; omega))).2)) (v := .int (σ.2.1 18 x.toNatClampNeg 0)) (rfl) ?_
                refine gx_goto dX5_flight_101 (tgt := 105) (by decide) ?_
                refine gx_ireturn dX5_flight_105 ?_
                exact ⟨⟨_, rfl, rfl⟩, rfl, by simp [sc_flight, hc1, hk]⟩
            · refine gx_tableOut dX5_flight_24 (gs_swout (N := 4) (by decide) (fun k hk => by rcases (by omega : k = 0 ∨ k = 1 ∨ k = 2 ∨ k = 3 ∨ k = 4) with rfl | rfl | rfl | rfl | rfl <;> first | exact t0 | exact t1 | exact t2 | exact t3 | exact t4)) (tgt := 106) (by decide) ?_
              refine gx_iconst dX5_flight_106 (v := (-1)) (by decide) ?_
              refine gx_ireturn dX5_flight_107 ?_
              exact ⟨⟨_, rfl, rfl⟩, rfl, by simp [sc_flight, hc1, t0, t1, t2, t3, t4]⟩
  · have hc1 := gs_b0 hc1
    refine gx_iconst dX5_flight_11 (v := (-1)) (by decide) ?_
    refine gx_ireturn dX5_flight_12 ?_
    exact ⟨⟨_, rfl, rfl⟩, rfl, by simp [sc_flight, hc1]⟩
