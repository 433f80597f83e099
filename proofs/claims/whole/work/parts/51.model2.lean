/-! the reference's questions -/
def sm_value (σ : gs_T) (x : Int32) : Int32 := if 0 ≤ x ∧ x < 16 then σ.2.1 103 x.toNatClampNeg 0 else -1
def sm_clock (σ : gs_T) (x : Int32) : Int32 := if 0 ≤ x ∧ x < nI (σ.1 100 0 0) then σ.2.1 101 x.toNatClampNeg 0 else -1
def sm_seen (σ : gs_T) (x : Int32) : Int32 := if 0 ≤ x ∧ x < 4 then σ.2.1 113 x.toNatClampNeg 0 else -1
def sm_taken (σ : gs_T) (x y : Int32) : Int32 := if 0 ≤ x ∧ x < nI (σ.1 100 0 0) then (if 0 ≤ y ∧ y < nI (σ.1 123 x.toNatClampNeg 0) then nI (σ.1 124 (40 * x.toNatClampNeg + y.toNatClampNeg) 0) else -1) else -1
def sm_answered (σ : gs_T) (x : Int32) : Int32 := if 0 ≤ x ∧ x < nI (σ.1 104 0 0) then (if σ.2.1 111 x.toNatClampNeg 0 = 0 then 0 else 1) else 0
def sm_answer (σ : gs_T) (x : Int32) : Int32 := if 0 ≤ x ∧ x < nI (σ.1 104 0 0) then (if σ.2.1 111 x.toNatClampNeg 0 = 0 then -2 else σ.2.1 112 x.toNatClampNeg 0) else -2
def sm_time (σ : gs_T) (x y z : Int32) : Int32 := if 0 ≤ x ∧ x < nI (σ.1 104 0 0) then (if 0 ≤ y ∧ y < nI (σ.1 100 0 0) then (if 0 ≤ z ∧ z < 3 then (if z = 2 then (if σ.2.1 118 (40 * y.toNatClampNeg + x.toNatClampNeg) 0 = 0 then 0 else 1) else if z = 0 then (if σ.2.1 119 (4 * (40 * y.toNatClampNeg + x.toNatClampNeg) + y.toNatClampNeg) 0 = 0 then -1 else σ.2.1 119 (4 * (40 * y.toNatClampNeg + x.toNatClampNeg) + y.toNatClampNeg) 0) else (if σ.2.1 115 (40 * y.toNatClampNeg + x.toNatClampNeg) 0 = 0 then -1 else σ.2.1 115 (40 * y.toNatClampNeg + x.toNatClampNeg) 0)) else -1) else -1) else -1
def sm_flight (σ : gs_T) (x z : Int32) : Int32 := if 0 ≤ x ∧ x < nI (σ.1 125 0 0) then (if 0 ≤ z ∧ z < 5 then (if z = 0 then σ.2.1 126 x.toNatClampNeg 0 else if z = 1 then nI (σ.1 127 x.toNatClampNeg 0) else if z = 2 then gs_sf (σ.1 128 x.toNatClampNeg 0) else if z = 3 then nI (σ.1 129 x.toNatClampNeg 0) else σ.2.1 130 x.toNatClampNeg 0) else -1) else -1
set_option maxHeartbeats 4000000 in
theorem cc_X6_value {S : gx_S} {h : gx_H} {σ : gs_T} {A : gs_A} (R : gs_R h σ A) (hm : σ.1 31 0 0 = 1) (V : gv_V σ) (x : Int32) : gx_Cn S gm_X6_value 2 [.ref (A 6 0 0), .int x] h (fun r h' => h' = h ∧ r = some (.int (sm_value σ x))) := by
  refine gx_Cn.of gt_X6_value (by simp [Value.category]) (Nat.le_of_ble_eq_true rfl) ?_
  show gx_Ev S gm_X6_value 2 0 [some (.ref (A 6 0 0)), some (.int x)] [] h _
  refine gx_iload_n dX6_value_0 rfl ?_
  refine gx_bipush dX6_value_1 (v := 16) (by decide) ?_
  refine gx_invS dX6_value_3 wm_X6_120 gt_X6_isIn ws_X6_isIn (As := [.int x, .int 16]) (rest := []) rfl rfl (Nat.le_of_ble_eq_true rfl) (by decide) (cc_X6_isIn x 16) (fun r1 h q1 => ?_)
  obtain ⟨rfl, rfl⟩ := q1
  show gx_Ev _ _ _ _ _ [.int (gs_bi (0 ≤ x ∧ x < 16))] _ _
  refine gx_if_eq dX6_value_6 (tgt := 18) (by decide) (fun hc1 => ?_) (fun hc1 => ?_)
  · have hc1 := gs_b0 hc1
    refine gx_iconst dX6_value_18 (v := (-1)) (by decide) ?_
    refine gx_ireturn dX6_value_19 ?_
    exact ⟨⟨_, rfl, rfl⟩, rfl, by simp [sm_value, hc1]⟩
  · have hc1 := gs_b1 hc1
    refine gx_aload_n dX6_value_9 rfl ?_
    refine gx_get dX6_value_10 gf_X6_17 (gs_g6 R hm) (v := .ref (A 23 0 0)) (rfl) ?_
    refine gx_iload_n dX6_value_13 rfl ?_
    refine gq_23 dX6_value_14 R hm (q := x.toNatClampNeg) ((gs_ixl (N := 16) rfl hc1 (by have := gv_n2 V; have := gv_n4 V; have := gv_cnt V; omega)).1) (by have := (gs_ixl (N := 16) rfl hc1 (by have := gv_n2 V; have := gv_n4 V; have := gv_cnt V; omega)).2; have := gv_n2 V; have := gv_n4 V; have := gv_cnt V; omega) (v := σ.2.1 103 x.toNatClampNeg 0) (rfl) ?_
    refine gx_goto dX6_value_15 (tgt := 19) (by decide) ?_
    refine gx_ireturn dX6_value_19 ?_
    exact ⟨⟨_, rfl, rfl⟩, rfl, by simp [sm_value, hc1]⟩
set_option maxHeartbeats 4000000 in
theorem cc_X6_clock {S : gx_S} {h : gx_H} {σ : gs_T} {A : gs_A} (R : gs_R h σ A) (hm : σ.1 31 0 0 = 1) (V : gv_V σ) (x : Int32) : gx_Cn S gm_X6_clock 2 [.ref (A 6 0 0), .int x] h (fun r h' => h' = h ∧ r = some (.int (sm_clock σ x))) := by
  refine gx_Cn.of gt_X6_clock (by simp [Value.category]) (Nat.le_of_ble_eq_true rfl) ?_
  show gx_Ev S gm_X6_clock 2 0 [some (.ref (A 6 0 0)), some (.int x)] [] h _
  refine gx_iload_n dX6_clock_0 rfl ?_
  refine gx_aload_n dX6_clock_1 rfl ?_
  refine gx_get dX6_clock_2 gf_X6_101 (gs_g6 R hm) (v := .int (nI (σ.1 100 0 0))) (rfl) ?_
  refine gx_invS dX6_clock_5 wm_X6_120 gt_X6_isIn ws_X6_isIn (As := [.int x, .int (nI (σ.1 100 0 0))]) (rest := []) rfl rfl (Nat.le_of_ble_eq_true rfl) (by decide) (cc_X6_isIn x (nI (σ.1 100 0 0))) (fun r1 h q1 => ?_)
  obtain ⟨rfl, rfl⟩ := q1
  show gx_Ev _ _ _ _ _ [.int (gs_bi (0 ≤ x ∧ x < (nI (σ.1 100 0 0))))] _ _
  refine gx_if_eq dX6_clock_8 (tgt := 20) (by decide) (fun hc1 => ?_) (fun hc1 => ?_)
  · have hc1 := gs_b0 hc1
    refine gx_iconst dX6_clock_20 (v := (-1)) (by decide) ?_
    refine gx_ireturn dX6_clock_21 ?_
    exact ⟨⟨_, rfl, rfl⟩, rfl, by simp [sm_clock, hc1]⟩
  · have hc1 := gs_b1 hc1
    refine gx_aload_n dX6_clock_11 rfl ?_
    refine gx_get dX6_clock_12 gf_X6_7 (gs_g6 R hm) (v := .ref (A 21 0 0)) (rfl) ?_
    refine gx_iload_n dX6_clock_15 rfl ?_
    refine gq_21 dX6_clock_16 R hm (q := x.toNatClampNeg) ((gs_ixl (N := σ.1 100 0 0) rfl hc1 (by have := gv_n2 V; have := gv_n4 V; have := gv_cnt V; omega)).1) (by have := (gs_ixl (N := σ.1 100 0 0) rfl hc1 (by have := gv_n2 V; have := gv_n4 V; have := gv_cnt V; omega)).2; have := gv_n2 V; have := gv_n4 V; have := gv_cnt V; omega) (v := σ.2.1 101 x.toNatClampNeg 0) (rfl) ?_
    refine gx_goto dX6_clock_17 (tgt := 21) (by decide) ?_
    refine gx_ireturn dX6_clock_21 ?_
    exact ⟨⟨_, rfl, rfl⟩, rfl, by simp [sm_clock, hc1]⟩
set_option maxHeartbeats 4000000 in
theorem cc_X6_seen {S : gx_S} {h : gx_H} {σ : gs_T} {A : gs_A} (R : gs_R h σ A) (hm : σ.1 31 0 0 = 1) (V : gv_V σ) (x : Int32) : gx_Cn S gm_X6_seen 2 [.ref (A 6 0 0), .int x] h (fun r h' => h' = h ∧ r = some (.int (sm_seen σ x))) := by
  refine gx_Cn.of gt_X6_seen (by simp [Value.category]) (Nat.le_of_ble_eq_true rfl) ?_
  show gx_Ev S gm_X6_seen 2 0 [some (.ref (A 6 0 0)), some (.int x)] [] h _
  refine gx_iload_n dX6_seen_0 rfl ?_
  refine gx_iconst dX6_seen_1 (v := 4) (by decide) ?_
  refine gx_invS dX6_seen_2 wm_X6_120 gt_X6_isIn ws_X6_isIn (As := [.int x, .int 4]) (rest := []) rfl rfl (Nat.le_of_ble_eq_true rfl) (by decide) (cc_X6_isIn x 4) (fun r1 h q1 => ?_)
  obtain ⟨rfl, rfl⟩ := q1
  show gx_Ev _ _ _ _ _ [.int (gs_bi (0 ≤ x ∧ x < 4))] _ _
  refine gx_if_eq dX6_seen_5 (tgt := 17) (by decide) (fun hc1 => ?_) (fun hc1 => ?_)
  · have hc1 := gs_b0 hc1
    refine gx_iconst dX6_seen_17 (v := (-1)) (by decide) ?_
    refine gx_ireturn dX6_seen_18 ?_
    exact ⟨⟨_, rfl, rfl⟩, rfl, by simp [sm_seen, hc1]⟩
  · have hc1 := gs_b1 hc1
    refine gx_aload_n dX6_seen_8 rfl ?_
    refine gx_get dX6_seen_9 gf_X6_44 (gs_g6 R hm) (v := .ref (A 33 0 0)) (rfl) ?_
    refine gx_iload_n dX6_seen_12 rfl ?_
    refine gq_33 dX6_seen_13 R hm (q := x.toNatClampNeg) ((gs_ixl (N := 4) rfl hc1 (by have := gv_n2 V; have := gv_n4 V; have := gv_cnt V; omega)).1) (by have := (gs_ixl (N := 4) rfl hc1 (by have := gv_n2 V; have := gv_n4 V; have := gv_cnt V; omega)).2; have := gv_n2 V; have := gv_n4 V; have := gv_cnt V; omega) (v := σ.2.1 113 x.toNatClampNeg 0) (rfl) ?_
    refine gx_goto dX6_seen_14 (tgt := 18) (by decide) ?_
    refine gx_ireturn dX6_seen_18 ?_
    exact ⟨⟨_, rfl, rfl⟩, rfl, by simp [sm_seen, hc1]⟩
set_option maxHeartbeats 4000000 in
theorem cc_X6_answered {S : gx_S} {h : gx_H} {σ : gs_T} {A : gs_A} (R : gs_R h σ A) (hm : σ.1 31 0 0 = 1) (V : gv_V σ) (x : Int32) : gx_Cn S gm_X6_answered 2 [.ref (A 6 0 0), .int x] h (fun r h' => h' = h ∧ r = some (.int (sm_answered σ x))) := by
  refine gx_Cn.of gt_X6_answered (by simp [Value.category]) (Nat.le_of_ble_eq_true rfl) ?_
  show gx_Ev S gm_X6_answered 2 0 [some (.ref (A 6 0 0)), some (.int x)] [] h _
  refine gx_iload_n dX6_answered_0 rfl ?_
  refine gx_aload_n dX6_answered_1 rfl ?_
  refine gx_get dX6_answered_2 gf_X6_124 (gs_g6 R hm) (v := .int (nI (σ.1 104 0 0))) (rfl) ?_
  refine gx_invS dX6_answered_5 wm_X6_120 gt_X6_isIn ws_X6_isIn (As := [.int x, .int (nI (σ.1 104 0 0))]) (rest := []) rfl rfl (Nat.le_of_ble_eq_true rfl) (by decide) (cc_X6_isIn x (nI (σ.1 104 0 0))) (fun r1 h q1 => ?_)
  obtain ⟨rfl, rfl⟩ := q1
  show gx_Ev _ _ _ _ _ [.int (gs_bi (0 ≤ x ∧ x < (nI (σ.1 104 0 0))))] _ _
  refine gx_if_eq dX6_answered_8 (tgt := 24) (by decide) (fun hc1 => ?_) (fun hc1 => ?_)
  · have hc1 := gs_b0 hc1
    refine gx_iconst dX6_answered_24 (v := 0) (by decide) ?_
    refine gx_ireturn dX6_answered_25 ?_
    exact ⟨⟨_, rfl, rfl⟩, rfl, by simp [sm_answered, hc1]⟩
  · have hc1 := gs_b1 hc1
    refine gx_aload_n dX6_answered_11 rfl ?_
    refine gx_get dX6_answered_12 gf_X6_38 (gs_g6 R hm) (v := .ref (A 31 0 0)) (rfl) ?_
    refine gx_iload_n dX6_answered_15 rfl ?_
    refine gq_31 dX6_answered_16 R hm (q := x.toNatClampNeg) ((gs_ixl (N := σ.1 104 0 0) rfl hc1 (by have := gv_n2 V; have := gv_n4 V; have := gv_cnt V; omega)).1) (by have := (gs_ixl (N := σ.1 104 0 0) rfl hc1 (by have := gv_n2 V; have := gv_n4 V; have := gv_cnt V; omega)).2; have := gv_n2 V; have := gv_n4 V; have := gv_cnt V; omega) (v := σ.2.1 111 x.toNatClampNeg 0) (rfl) ?_
    refine gx_if_eq dX6_answered_17 (tgt := 24) (by decide) (fun hc2 => ?_) (fun hc2 => ?_)
    · refine gx_iconst dX6_answered_24 (v := 0) (by decide) ?_
      refine gx_ireturn dX6_answered_25 ?_
      exact ⟨⟨_, rfl, rfl⟩, rfl, by simp [sm_answered, hc1, hc2]⟩
    · refine gx_iconst dX6_answered_20 (v := 1) (by decide) ?_
      refine gx_goto dX6_answered_21 (tgt := 25) (by decide) ?_
      refine gx_ireturn dX6_answered_25 ?_
      exact ⟨⟨_, rfl, rfl⟩, rfl, by simp [sm_answered, hc1, hc2]⟩
set_option maxHeartbeats 4000000 in
theorem cc_X6_answer {S : gx_S} {h : gx_H} {σ : gs_T} {A : gs_A} (R : gs_R h σ A) (hm : σ.1 31 0 0 = 1) (V : gv_V σ) (x : Int32) : gx_Cn S gm_X6_answer 2 [.ref (A 6 0 0), .int x] h (fun r h' => h' = h ∧ r = some (.int (sm_answer σ x))) := by
  refine gx_Cn.of gt_X6_answer (by simp [Value.category]) (Nat.le_of_ble_eq_true rfl) ?_
  show gx_Ev S gm_X6_answer 2 0 [some (.ref (A 6 0 0)), some (.int x)] [] h _
  refine gx_iload_n dX6_answer_0 rfl ?_
  refine gx_aload_n dX6_answer_1 rfl ?_
  refine gx_get dX6_answer_2 gf_X6_124 (gs_g6 R hm) (v := .int (nI (σ.1 104 0 0))) (rfl) ?_
  refine gx_invS dX6_answer_5 wm_X6_120 gt_X6_isIn ws_X6_isIn (As := [.int x, .int (nI (σ.1 104 0 0))]) (rest := []) rfl rfl (Nat.le_of_ble_eq_true rfl) (by decide) (cc_X6_isIn x (nI (σ.1 104 0 0))) (fun r1 h q1 => ?_)
  obtain ⟨rfl, rfl⟩ := q1
  show gx_Ev _ _ _ _ _ [.int (gs_bi (0 ≤ x ∧ x < (nI (σ.1 104 0 0))))] _ _
  refine gx_if_eq dX6_answer_8 (tgt := 29) (by decide) (fun hc1 => ?_) (fun hc1 => ?_)
  · have hc1 := gs_b0 hc1
    refine gx_bipush dX6_answer_29 (v := (-2)) (by decide) ?_
    refine gx_ireturn dX6_answer_31 ?_
    exact ⟨⟨_, rfl, rfl⟩, rfl, by simp [sm_answer, hc1]⟩
  · have hc1 := gs_b1 hc1
    refine gx_aload_n dX6_answer_11 rfl ?_
    refine gx_get dX6_answer_12 gf_X6_38 (gs_g6 R hm) (v := .ref (A 31 0 0)) (rfl) ?_
    refine gx_iload_n dX6_answer_15 rfl ?_
    refine gq_31 dX6_answer_16 R hm (q := x.toNatClampNeg) ((gs_ixl (N := σ.1 104 0 0) rfl hc1 (by have := gv_n2 V; have := gv_n4 V; have := gv_cnt V; omega)).1) (by have := (gs_ixl (N := σ.1 104 0 0) rfl hc1 (by have := gv_n2 V; have := gv_n4 V; have := gv_cnt V; omega)).2; have := gv_n2 V; have := gv_n4 V; have := gv_cnt V; omega) (v := σ.2.1 111 x.toNatClampNeg 0) (rfl) ?_
    refine gx_if_eq dX6_answer_17 (tgt := 29) (by decide) (fun hc2 => ?_) (fun hc2 => ?_)
    · refine gx_bipush dX6_answer_29 (v := (-2)) (by decide) ?_
      refine gx_ireturn dX6_answer_31 ?_
      exact ⟨⟨_, rfl, rfl⟩, rfl, by simp [sm_answer, hc1, hc2]⟩
    · refine gx_aload_n dX6_answer_20 rfl ?_
      refine gx_get dX6_answer_21 gf_X6_41 (gs_g6 R hm) (v := .ref (A 32 0 0)) (rfl) ?_
      refine gx_iload_n dX6_answer_24 rfl ?_
      refine gq_32 dX6_answer_25 R hm (q := x.toNatClampNeg) ((gs_ixl (N := σ.1 104 0 0) rfl hc1 (by have := gv_n2 V; have := gv_n4 V; have := gv_cnt V; omega)).1) (by have := (gs_ixl (N := σ.1 104 0 0) rfl hc1 (by have := gv_n2 V; have := gv_n4 V; have := gv_cnt V; omega)).2; have := gv_n2 V; have := gv_n4 V; have := gv_cnt V; omega) (v := σ.2.1 112 x.toNatClampNeg 0) (rfl) ?_
      refine gx_goto dX6_answer_26 (tgt := 31) (by decide) ?_
      refine gx_ireturn dX6_answer_31 ?_
      exact ⟨⟨_, rfl, rfl⟩, rfl, by simp [sm_answer, hc1, hc2]⟩
set_option maxHeartbeats 4000000 in
theorem cc_X6_flight {S : gx_S} {h : gx_H} {σ : gs_T} {A : gs_A} (R : gs_R h σ A) (hm : σ.1 31 0 0 = 1) (V : gv_V σ) (x : Int32) (z : Int32) (hF : σ.1 125 0 0 < 400) : gx_Cn S gm_X6_flight 2 [.ref (A 6 0 0), .int x, .int z] h (fun r h' => h' = h ∧ r = some (.int (sm_flight σ x z))) := by
  refine gx_Cn.of gt_X6_flight (by simp [Value.category]) (Nat.le_of_ble_eq_true rfl) ?_
  show gx_Ev S gm_X6_flight 2 0 [some (.ref (A 6 0 0)), some (.int x), some (.int z)] [] h _
  refine gx_iload_n dX6_flight_0 rfl ?_
  refine gx_aload_n dX6_flight_1 rfl ?_
  refine gx_get dX6_flight_2 gf_X6_109 (gs_g6 R hm) (v := .int (nI (σ.1 125 0 0))) (rfl) ?_
  refine gx_invS dX6_flight_5 wm_X6_120 gt_X6_isIn ws_X6_isIn (As := [.int x, .int (nI (σ.1 125 0 0))]) (rest := []) rfl rfl (Nat.le_of_ble_eq_true rfl) (by decide) (cc_X6_isIn x (nI (σ.1 125 0 0))) (fun r1 h q1 => ?_)
  obtain ⟨rfl, rfl⟩ := q1
  show gx_Ev _ _ _ _ _ [.int (gs_bi (0 ≤ x ∧ x < (nI (σ.1 125 0 0))))] _ _
  refine gx_if_eq dX6_flight_8 (tgt := 19) (by decide) (fun hc1 => ?_) (fun hc1 => ?_)
  · have hc1 := gs_b0 hc1
    refine gx_iconst dX6_flight_19 (v := (-1)) (by decide) ?_
    refine gx_ireturn dX6_flight_20 ?_
    exact ⟨⟨_, rfl, rfl⟩, rfl, by simp [sm_flight, hc1]⟩
  · have hc1 := gs_b1 hc1
    refine gx_iload_n dX6_flight_11 rfl ?_
    refine gx_iconst dX6_flight_12 (v := 5) (by decide) ?_
    refine gx_invS dX6_flight_13 wm_X6_120 gt_X6_isIn ws_X6_isIn (As := [.int z, .int 5]) (rest := []) rfl rfl (Nat.le_of_ble_eq_true rfl) (by decide) (cc_X6_isIn z 5) (fun r1 h q1 => ?_)
    obtain ⟨rfl, rfl⟩ := q1
    show gx_Ev _ _ _ _ _ [.int (gs_bi (0 ≤ z ∧ z < 5))] _ _
    refine gx_if_ne dX6_flight_16 (tgt := 21) (by decide) (fun hc2 => ?_) (fun hc2 => ?_)
    · have hc2 := gs_b1 hc2
      refine gx_iload_n dX6_flight_21 rfl ?_
      refine gx_if_ne dX6_flight_22 (tgt := 34) (by decide) (fun hc3 => ?_) (fun hc3 => ?_)
      · refine gx_iload_n dX6_flight_34 rfl ?_
        refine gx_iconst dX6_flight_35 (v := 1) (by decide) ?_
        refine gx_icmp_ne dX6_flight_36 (tgt := 48) (by decide) (fun hc4 => ?_) (fun hc4 => ?_)
        · refine gx_iload_n dX6_flight_48 rfl ?_
          refine gx_iconst dX6_flight_49 (v := 2) (by decide) ?_
          refine gx_icmp_ne dX6_flight_50 (tgt := 62) (by decide) (fun hc5 => ?_) (fun hc5 => ?_)
          · refine gx_iload_n dX6_flight_62 rfl ?_
            refine gx_iconst dX6_flight_63 (v := 3) (by decide) ?_
            refine gx_icmp_ne dX6_flight_64 (tgt := 76) (by decide) (fun hc6 => ?_) (fun hc6 => ?_)
            · refine gx_aload_n dX6_flight_76 rfl ?_
              refine gx_get dX6_flight_77 gf_X6_92 (gs_g6 R hm) (v := .ref (A 50 0 0)) (rfl) ?_
              refine gx_iload_n dX6_flight_80 rfl ?_
              refine gq_50 dX6_flight_81 R hm (q := x.toNatClampNeg) ((gs_ixl (N := σ.1 125 0 0) rfl hc1 (by omega)).1) (by have := (gs_ixl (N := σ.1 125 0 0) rfl hc1 (by omega)).2; omega) (v := σ.2.1 130 x.toNatClampNeg 0) (rfl) ?_
              refine gx_ireturn dX6_flight_82 ?_
              exact ⟨⟨_, rfl, rfl⟩, rfl, by simp [sm_flight, hc1, hc2, hc3, hc4, hc5, hc6]⟩
            · refine gx_aload_n dX6_flight_67 rfl ?_
              refine gx_get dX6_flight_68 gf_X6_89 (gs_g6 R hm) (v := .ref (A 49 0 0)) (rfl) ?_
              refine gx_iload_n dX6_flight_71 rfl ?_
              refine gq_49 dX6_flight_72 R hm (q := x.toNatClampNeg) ((gs_ixl (N := σ.1 125 0 0) rfl hc1 (by omega)).1) (by have := (gs_ixl (N := σ.1 125 0 0) rfl hc1 (by omega)).2; omega) (v := nI (σ.1 129 x.toNatClampNeg 0)) (rfl) ?_
              refine gx_goto dX6_flight_73 (tgt := 82) (by decide) ?_
              refine gx_ireturn dX6_flight_82 ?_
              exact ⟨⟨_, rfl, rfl⟩, rfl, by simp [sm_flight, hc1, hc2, hc3, hc4, hc5, hc6]⟩
          · refine gx_aload_n dX6_flight_53 rfl ?_
            refine gx_get dX6_flight_54 gf_X6_86 (gs_g6 R hm) (v := .ref (A 48 0 0)) (rfl) ?_
            refine gx_iload_n dX6_flight_57 rfl ?_
            refine gq_48 dX6_flight_58 R hm (q := x.toNatClampNeg) ((gs_ixl (N := σ.1 125 0 0) rfl hc1 (by omega)).1) (by have := (gs_ixl (N := σ.1 125 0 0) rfl hc1 (by omega)).2; omega) (v := gs_sf (σ.1 128 x.toNatClampNeg 0)) (rfl) ?_
            refine gx_goto dX6_flight_59 (tgt := 82) (by decide) ?_
            refine gx_ireturn dX6_flight_82 ?_
            exact ⟨⟨_, rfl, rfl⟩, rfl, by simp [sm_flight, hc1, hc2, hc3, hc4, hc5]⟩
        · refine gx_aload_n dX6_flight_39 rfl ?_
          refine gx_get dX6_flight_40 gf_X6_83 (gs_g6 R hm) (v := .ref (A 47 0 0)) (rfl) ?_
          refine gx_iload_n dX6_flight_43 rfl ?_
          refine gq_47 dX6_flight_44 R hm (q := x.toNatClampNeg) ((gs_ixl (N := σ.1 125 0 0) rfl hc1 (by omega)).1) (by have := (gs_ixl (N := σ.1 125 0 0) rfl hc1 (by omega)).2; omega) (v := nI (σ.1 127 x.toNatClampNeg 0)) (rfl) ?_
          refine gx_goto dX6_flight_45 (tgt := 82) (by decide) ?_
          refine gx_ireturn dX6_flight_82 ?_
          exact ⟨⟨_, rfl, rfl⟩, rfl, by simp [sm_flight, hc1, hc2, hc3, hc4]⟩
      · refine gx_aload_n dX6_flight_25 rfl ?_
        refine gx_get dX6_flight_26 gf_X6_80 (gs_g6 R hm) (v := .ref (A 46 0 0)) (rfl) ?_
        refine gx_iload_n dX6_flight_29 rfl ?_
        refine gq_46 dX6_flight_30 R hm (q := x.toNatClampNeg) ((gs_ixl (N := σ.1 125 0 0) rfl hc1 (by omega)).1) (by have := (gs_ixl (N := σ.1 125 0 0) rfl hc1 (by omega)).2; omega) (v := σ.2.1 126 x.toNatClampNeg 0) (rfl) ?_
        refine gx_goto dX6_flight_31 (tgt := 82) (by decide) ?_
        refine gx_ireturn dX6_flight_82 ?_
        exact ⟨⟨_, rfl, rfl⟩, rfl, by simp [sm_flight, hc1, hc2, hc3]⟩
    · have hc2 := gs_b0 hc2
      refine gx_iconst dX6_flight_19 (v := (-1)) (by decide) ?_
      refine gx_ireturn dX6_flight_20 ?_
      exact ⟨⟨_, rfl, rfl⟩, rfl, by simp [sm_flight, hc1, hc2]⟩
set_option maxHeartbeats 4000000 in
theorem cc_X6_taken {S : gx_S} {h : gx_H} {σ : gs_T} {A : gs_A} (R : gs_R h σ A) (hm : σ.1 31 0 0 = 1) (V : gv_V σ) (x : Int32) (y : Int32) : gx_Cn S gm_X6_taken 2 [.ref (A 6 0 0), .int x, .int y] h (fun r h' => h' = h ∧ r = some (.int (sm_taken σ x y))) := by
  refine gx_Cn.of gt_X6_taken (by simp [Value.category]) (Nat.le_of_ble_eq_true rfl) ?_
  show gx_Ev S gm_X6_taken 2 0 [some (.ref (A 6 0 0)), some (.int x), some (.int y)] [] h _
  refine gx_iload_n dX6_taken_0 rfl ?_
  refine gx_aload_n dX6_taken_1 rfl ?_
  refine gx_get dX6_taken_2 gf_X6_101 (gs_g6 R hm) (v := .int (nI (σ.1 100 0 0))) (rfl) ?_
  refine gx_invS dX6_taken_5 wm_X6_120 gt_X6_isIn ws_X6_isIn (As := [.int x, .int (nI (σ.1 100 0 0))]) (rest := []) rfl rfl (Nat.le_of_ble_eq_true rfl) (by decide) (cc_X6_isIn x (nI (σ.1 100 0 0))) (fun r1 h q1 => ?_)
  obtain ⟨rfl, rfl⟩ := q1
  show gx_Ev _ _ _ _ _ [.int (gs_bi (0 ≤ x ∧ x < (nI (σ.1 100 0 0))))] _ _
  refine gx_if_eq dX6_taken_8 (tgt := 37) (by decide) (fun hc1 => ?_) (fun hc1 => ?_)
  · have hc1 := gs_b0 hc1
    refine gx_iconst dX6_taken_37 (v := (-1)) (by decide) ?_
    refine gx_ireturn dX6_taken_38 ?_
    exact ⟨⟨_, rfl, rfl⟩, rfl, by simp [sm_taken, hc1]⟩
  · have hc1 := gs_b1 hc1
    refine gx_iload_n dX6_taken_11 rfl ?_
    refine gx_aload_n dX6_taken_12 rfl ?_
    refine gx_get dX6_taken_13 gf_X6_74 (gs_g6 R hm) (v := .ref (A 43 0 0)) (rfl) ?_
    refine gx_iload_n dX6_taken_16 rfl ?_
    refine gq_43 dX6_taken_17 R hm (q := x.toNatClampNeg) ((gs_ixl (N := σ.1 100 0 0) rfl hc1 (by have := gv_n2 V; have := gv_n4 V; have := gv_cnt V; omega)).1) (by have := (gs_ixl (N := σ.1 100 0 0) rfl hc1 (by have := gv_n2 V; have := gv_n4 V; have := gv_cnt V; omega)).2; have := gv_n2 V; have := gv_n4 V; have := gv_cnt V; omega) (v := nI (σ.1 123 x.toNatClampNeg 0)) (rfl) ?_
    refine gx_invS dX6_taken_18 wm_X6_120 gt_X6_isIn ws_X6_isIn (As := [.int y, .int (nI (σ.1 123 x.toNatClampNeg 0))]) (rest := []) rfl rfl (Nat.le_of_ble_eq_true rfl) (by decide) (cc_X6_isIn y (nI (σ.1 123 x.toNatClampNeg 0))) (fun r1 h q1 => ?_)
    obtain ⟨rfl, rfl⟩ := q1
    show gx_Ev _ _ _ _ _ [.int (gs_bi (0 ≤ y ∧ y < (nI (σ.1 123 x.toNatClampNeg 0))))] _ _
    refine gx_if_eq dX6_taken_21 (tgt := 37) (by decide) (fun hc2 => ?_) (fun hc2 => ?_)
    · have hc2 := gs_b0 hc2
      refine gx_iconst dX6_taken_37 (v := (-1)) (by decide) ?_
      refine gx_ireturn dX6_taken_38 ?_
      exact ⟨⟨_, rfl, rfl⟩, rfl, by simp [sm_taken, hc1, hc2]⟩
    · have hc2 := gs_b1 hc2
      refine gx_aload_n dX6_taken_24 rfl ?_
      refine gx_get dX6_taken_25 gf_X6_77 (gs_g6 R hm) (v := .ref (A 44 0 0)) (rfl) ?_
      refine gx_iload_n dX6_taken_28 rfl ?_
      refine gx_iload_n dX6_taken_29 rfl ?_
      refine gx_invS dX6_taken_30 wm_X6_105 gt_X6_at ws_X6_at (As := [.int x, .int y]) (rest := [.ref (A 44 0 0)]) rfl rfl (Nat.le_of_ble_eq_true rfl) (by decide) (cc_X6_atE (g := x.toNatClampNeg) (o := y.toNatClampNeg) ((gs_ixl (N := σ.1 100 0 0) rfl hc1 (by have := gv_n2 V; have := gv_n4 V; have := gv_cnt V; omega)).1) ((gs_ixl (N := σ.1 123 x.toNatClampNeg 0) rfl hc2 (by have := gv_tc V x.toNatClampNeg; omega)).1)) (fun r1 h q1 => ?_)
      obtain ⟨rfl, rfl⟩ := q1
      show gx_Ev _ _ _ _ _ [.int (nI (40 * x.toNatClampNeg + y.toNatClampNeg)), .ref (A 44 0 0)] _ _
      refine gq_44 dX6_taken_33 R hm (q := 40 * x.toNatClampNeg + y.toNatClampNeg) (rfl) (by have := (gs_ixl (N := σ.1 100 0 0) rfl hc1 (by have := gv_n2 V; have := gv_n4 V; have := gv_cnt V; omega)).2; have := (gs_ixl (N := σ.1 123 x.toNatClampNeg 0) rfl hc2 (by have := gv_tc V x.toNatClampNeg; omega)).2; have := gv_tc V x.toNatClampNeg; have := gv_n2 V; have := gv_n4 V; have := gv_cnt V; omega) (v := nI (σ.1 124 (40 * x.toNatClampNeg + y.toNatClampNeg) 0)) (rfl) ?_
      refine gx_goto dX6_taken_34 (tgt := 38) (by decide) ?_
      refine gx_ireturn dX6_taken_38 ?_
      exact ⟨⟨_, rfl, rfl⟩, rfl, by simp [sm_taken, hc1, hc2]⟩
set_option maxHeartbeats 4000000 in
theorem cc_X6_time {S : gx_S} {h : gx_H} {σ : gs_T} {A : gs_A} (R : gs_R h σ A) (hm : σ.1 31 0 0 = 1) (V : gv_V σ) (x : Int32) (y : Int32) (z : Int32) : gx_Cn S gm_X6_time 3 [.ref (A 6 0 0), .int x, .int y, .int z] h (fun r h' => h' = h ∧ r = some (.int (sm_time σ x y z))) := by
  refine gx_Cn.of gt_X6_time (by simp [Value.category]) (Nat.le_of_ble_eq_true rfl) ?_
  show gx_Ev S gm_X6_time 3 0 [some (.ref (A 6 0 0)), some (.int x), some (.int y), some (.int z), none] [] h _
  refine gx_iload_n dX6_time_0 rfl ?_
  refine gx_aload_n dX6_time_1 rfl ?_
  refine gx_get dX6_time_2 gf_X6_124 (gs_g6 R hm) (v := .int (nI (σ.1 104 0 0))) (rfl) ?_
  refine gx_invS dX6_time_5 wm_X6_120 gt_X6_isIn ws_X6_isIn (As := [.int x, .int (nI (σ.1 104 0 0))]) (rest := []) rfl rfl (Nat.le_of_ble_eq_true rfl) (by decide) (cc_X6_isIn x (nI (σ.1 104 0 0))) (fun r1 h q1 => ?_)
  obtain ⟨rfl, rfl⟩ := q1
  show gx_Ev _ _ _ _ _ [.int (gs_bi (0 ≤ x ∧ x < (nI (σ.1 104 0 0))))] _ _
  refine gx_if_eq dX6_time_8 (tgt := 30) (by decide) (fun hc1 => ?_) (fun hc1 => ?_)
  · have hc1 := gs_b0 hc1
    refine gx_iconst dX6_time_30 (v := (-1)) (by decide) ?_
    refine gx_ireturn dX6_time_31 ?_
    exact ⟨⟨_, rfl, rfl⟩, rfl, by simp [sm_time, hc1]⟩
  · have hc1 := gs_b1 hc1
    refine gx_iload_n dX6_time_11 rfl ?_
    refine gx_aload_n dX6_time_12 rfl ?_
    refine gx_get dX6_time_13 gf_X6_101 (gs_g6 R hm) (v := .int (nI (σ.1 100 0 0))) (rfl) ?_
    refine gx_invS dX6_time_16 wm_X6_120 gt_X6_isIn ws_X6_isIn (As := [.int y, .int (nI (σ.1 100 0 0))]) (rest := []) rfl rfl (Nat.le_of_ble_eq_true rfl) (by decide) (cc_X6_isIn y (nI (σ.1 100 0 0))) (fun r1 h q1 => ?_)
    obtain ⟨rfl, rfl⟩ := q1
    show gx_Ev _ _ _ _ _ [.int (gs_bi (0 ≤ y ∧ y < (nI (σ.1 100 0 0))))] _ _
    refine gx_if_eq dX6_time_19 (tgt := 30) (by decide) (fun hc2 => ?_) (fun hc2 => ?_)
    · have hc2 := gs_b0 hc2
      refine gx_iconst dX6_time_30 (v := (-1)) (by decide) ?_
      refine gx_ireturn dX6_time_31 ?_
      exact ⟨⟨_, rfl, rfl⟩, rfl, by simp [sm_time, hc1, hc2]⟩
    · have hc2 := gs_b1 hc2
      refine gx_iload_n dX6_time_22 rfl ?_
      refine gx_iconst dX6_time_23 (v := 3) (by decide) ?_
      refine gx_invS dX6_time_24 wm_X6_120 gt_X6_isIn ws_X6_isIn (As := [.int z, .int 3]) (rest := []) rfl rfl (Nat.le_of_ble_eq_true rfl) (by decide) (cc_X6_isIn z 3) (fun r1 h q1 => ?_)
      obtain ⟨rfl, rfl⟩ := q1
      show gx_Ev _ _ _ _ _ [.int (gs_bi (0 ≤ z ∧ z < 3))] _ _
      refine gx_if_ne dX6_time_27 (tgt := 32) (by decide) (fun hc3 => ?_) (fun hc3 => ?_)
      · have hc3 := gs_b1 hc3
        refine gx_iload_n dX6_time_32 rfl ?_
        refine gx_iconst dX6_time_33 (v := 2) (by decide) ?_
        refine gx_icmp_ne dX6_time_34 (tgt := 56) (by decide) (fun hc4 => ?_) (fun hc4 => ?_)
        · refine gx_iload_n dX6_time_56 rfl ?_
          refine gx_if_ne dX6_time_57 (tgt := 74) (by decide) (fun hc5 => ?_) (fun hc5 => ?_)
          · refine gx_aload_n dX6_time_74 rfl ?_
            refine gx_get dX6_time_75 gf_X6_50 (gs_g6 R hm) (v := .ref (A 35 0 0)) (rfl) ?_
            refine gx_iload_n dX6_time_78 rfl ?_
            refine gx_iload_n dX6_time_79 rfl ?_
            refine gx_invS dX6_time_80 wm_X6_105 gt_X6_at ws_X6_at (As := [.int y, .int x]) (rest := [.ref (A 35 0 0)]) rfl rfl (Nat.le_of_ble_eq_true rfl) (by decide) (cc_X6_atE (g := y.toNatClampNeg) (o := x.toNatClampNeg) ((gs_ixl (N := σ.1 100 0 0) rfl hc2 (by have := gv_n2 V; have := gv_n4 V; have := gv_cnt V; omega)).1) ((gs_ixl (N := σ.1 104 0 0) rfl hc1 (by have := gv_n2 V; have := gv_n4 V; have := gv_cnt V; omega)).1)) (fun r1 h q1 => ?_)
            obtain ⟨rfl, rfl⟩ := q1
            show gx_Ev _ _ _ _ _ [.int (nI (40 * y.toNatClampNeg + x.toNatClampNeg)), .ref (A 35 0 0)] _ _
            refine gq_35 dX6_time_83 R hm (q := 40 * y.toNatClampNeg + x.toNatClampNeg) (rfl) (by have := (gs_ixl (N := σ.1 104 0 0) rfl hc1 (by have := gv_n2 V; have := gv_n4 V; have := gv_cnt V; omega)).2; have := (gs_ixl (N := σ.1 100 0 0) rfl hc2 (by have := gv_n2 V; have := gv_n4 V; have := gv_cnt V; omega)).2; have := gv_n2 V; have := gv_n4 V; have := gv_cnt V; omega) (v := σ.2.1 115 (40 * y.toNatClampNeg + x.toNatClampNeg) 0) (rfl) ?_
            refine gx_istore dX6_time_84 (by decide) rfl (L' := [some (.ref (A 6 0 0)), some (.int x), some (.int y), some (.int z), some (.int (σ.2.1 115 (40 * y.toNatClampNeg + x.toNatClampNeg) 0))]) rfl ?_
            refine gx_iload dX6_time_86 rfl ?_
            refine gx_if_ne dX6_time_88 (tgt := 95) (by decide) (fun hc6 => ?_) (fun hc6 => ?_)
            · refine gx_iload dX6_time_95 rfl ?_
              refine gx_ireturn dX6_time_97 ?_
              exact ⟨⟨_, rfl, rfl⟩, rfl, by simp [sm_time, hc1, hc2, hc3, hc4, hc5, hc6]⟩
            · refine gx_iconst dX6_time_91 (v := (-1)) (by decide) ?_
              refine gx_goto dX6_time_92 (tgt := 97) (by decide) ?_
              refine gx_ireturn dX6_time_97 ?_
              exact ⟨⟨_, rfl, rfl⟩, rfl, by simp [sm_time, hc1, hc2, hc3, hc4, hc5, hc6]⟩
          · refine gx_aload_n dX6_time_60 rfl ?_
            refine gx_get dX6_time_61 gf_X6_62 (gs_g6 R hm) (v := .ref (A 39 0 0)) (rfl) ?_
            refine gx_iload_n dX6_time_64 rfl ?_
            refine gx_iload_n dX6_time_65 rfl ?_
            refine gx_iload_n dX6_time_66 rfl ?_
            refine gx_invS dX6_time_67 wm_X6_131 gt_X6_of ws_X6_of (As := [.int y, .int x, .int y]) (rest := [.ref (A 39 0 0)]) rfl rfl (Nat.le_of_ble_eq_true rfl) (by decide) (cc_X6_ofE (g := y.toNatClampNeg) (o := x.toNatClampNeg) (q := y.toNatClampNeg) ((gs_ixl (N := σ.1 100 0 0) rfl hc2 (by have := gv_n2 V; have := gv_n4 V; have := gv_cnt V; omega)).1) ((gs_ixl (N := σ.1 104 0 0) rfl hc1 (by have := gv_n2 V; have := gv_n4 V; have := gv_cnt V; omega)).1) ((gs_ixl (N := σ.1 100 0 0) rfl hc2 (by have := gv_n2 V; have := gv_n4 V; have := gv_cnt V; omega)).1)) (fun r1 h q1 => ?_)
            obtain ⟨rfl, rfl⟩ := q1
            show gx_Ev _ _ _ _ _ [.int (nI (4 * (40 * y.toNatClampNeg + x.toNatClampNeg) + y.toNatClampNeg)), .ref (A 39 0 0)] _ _
            refine gq_39 dX6_time_70 R hm (q := 4 * (40 * y.toNatClampNeg + x.toNatClampNeg) + y.toNatClampNeg) (rfl) (by have := (gs_ixl (N := σ.1 104 0 0) rfl hc1 (by have := gv_n2 V; have := gv_n4 V; have := gv_cnt V; omega)).2; have := (gs_ixl (N := σ.1 100 0 0) rfl hc2 (by have := gv_n2 V; have := gv_n4 V; have := gv_cnt V; omega)).2; have := gv_n2 V; have := gv_n4 V; have := gv_cnt V; omega) (v := σ.2.1 119 (4 * (40 * y.toNatClampNeg + x.toNatClampNeg) + y.toNatClampNeg) 0) (rfl) ?_
            refine gx_goto dX6_time_71 (tgt := 84) (by decide) ?_
            refine gx_istore dX6_time_84 (by decide) rfl (L' := [some (.ref (A 6 0 0)), some (.int x), some (.int y), some (.int z), some (.int (σ.2.1 119 (4 * (40 * y.toNatClampNeg + x.toNatClampNeg) + y.toNatClampNeg) 0))]) rfl ?_
            refine gx_iload dX6_time_86 rfl ?_
            refine gx_if_ne dX6_time_88 (tgt := 95) (by decide) (fun hc7 => ?_) (fun hc7 => ?_)
            · refine gx_iload dX6_time_95 rfl ?_
              refine gx_ireturn dX6_time_97 ?_
              exact ⟨⟨_, rfl, rfl⟩, rfl, by simp [sm_time, hc1, hc2, hc3, hc4, hc5, hc7]⟩
            · refine gx_iconst dX6_time_91 (v := (-1)) (by decide) ?_
              refine gx_goto dX6_time_92 (tgt := 97) (by decide) ?_
              refine gx_ireturn dX6_time_97 ?_
              exact ⟨⟨_, rfl, rfl⟩, rfl, by simp [sm_time, hc1, hc2, hc3, hc4, hc5, hc7]⟩
        · refine gx_aload_n dX6_time_37 rfl ?_
          refine gx_get dX6_time_38 gf_X6_59 (gs_g6 R hm) (v := .ref (A 38 0 0)) (rfl) ?_
          refine gx_iload_n dX6_time_41 rfl ?_
          refine gx_iload_n dX6_time_42 rfl ?_
          refine gx_invS dX6_time_43 wm_X6_105 gt_X6_at ws_X6_at (As := [.int y, .int x]) (rest := [.ref (A 38 0 0)]) rfl rfl (Nat.le_of_ble_eq_true rfl) (by decide) (cc_X6_atE (g := y.toNatClampNeg) (o := x.toNatClampNeg) ((gs_ixl (N := σ.1 100 0 0) rfl hc2 (by have := gv_n2 V; have := gv_n4 V; have := gv_cnt V; omega)).1) ((gs_ixl (N := σ.1 104 0 0) rfl hc1 (by have := gv_n2 V; have := gv_n4 V; have := gv_cnt V; omega)).1)) (fun r1 h q1 => ?_)
          obtain ⟨rfl, rfl⟩ := q1
          show gx_Ev _ _ _ _ _ [.int (nI (40 * y.toNatClampNeg + x.toNatClampNeg)), .ref (A 38 0 0)] _ _
          refine gq_38 dX6_time_46 R hm (q := 40 * y.toNatClampNeg + x.toNatClampNeg) (rfl) (by have := (gs_ixl (N := σ.1 104 0 0) rfl hc1 (by have := gv_n2 V; have := gv_n4 V; have := gv_cnt V; omega)).2; have := (gs_ixl (N := σ.1 100 0 0) rfl hc2 (by have := gv_n2 V; have := gv_n4 V; have := gv_cnt V; omega)).2; have := gv_n2 V; have := gv_n4 V; have := gv_cnt V; omega) (v := σ.2.1 118 (40 * y.toNatClampNeg + x.toNatClampNeg) 0) (rfl) ?_
          refine gx_if_eq dX6_time_47 (tgt := 54) (by decide) (fun hc8 => ?_) (fun hc8 => ?_)
          · refine gx_iconst dX6_time_54 (v := 0) (by decide) ?_
            refine gx_ireturn dX6_time_55 ?_
            exact ⟨⟨_, rfl, rfl⟩, rfl, by simp [sm_time, hc1, hc2, hc3, hc4, hc8]⟩
          · refine gx_iconst dX6_time_50 (v := 1) (by decide) ?_
            refine gx_goto dX6_time_51 (tgt := 55) (by decide) ?_
            refine gx_ireturn dX6_time_55 ?_
            exact ⟨⟨_, rfl, rfl⟩, rfl, by simp [sm_time, hc1, hc2, hc3, hc4, hc8]⟩
      · have hc3 := gs_b0 hc3
        refine gx_iconst dX6_time_30 (v := (-1)) (by decide) ?_
        refine gx_ireturn dX6_time_31 ?_
        exact ⟨⟨_, rfl, rfl⟩, rfl, by simp [sm_time, hc1, hc2, hc3]⟩
set_option maxHeartbeats 4000000 in
theorem cc_X6_flying {S : gx_S} {h : gx_H} {σ : gs_T} {A : gs_A} (R : gs_R h σ A) (hm : σ.1 31 0 0 = 1) (V : gv_V σ) : gx_Cn S gm_X6_flying 1 [.ref (A 6 0 0)] h (fun r h' => h' = h ∧ r = some (.int (nI (σ.1 125 0 0)))) := by
  refine gx_Cn.of gt_X6_flying (by simp [Value.category]) (Nat.le_of_ble_eq_true rfl) ?_
  show gx_Ev S gm_X6_flying 1 0 [some (.ref (A 6 0 0))] [] h _
  refine gx_aload_n dX6_flying_0 rfl ?_
  refine gx_get dX6_flying_1 gf_X6_109 (gs_g6 R hm) (v := .int (nI (σ.1 125 0 0))) (rfl) ?_
  refine gx_ireturn dX6_flying_4 ?_
  exact ⟨⟨_, rfl, rfl⟩, rfl, rfl⟩
def sm_up (σ : gs_T) (x b : Int32) : gs_T := if 0 ≤ x ∧ x < nI (σ.1 100 0 0) then gs_i σ 102 x.toNatClampNeg 0 (if b = 0 then 1 else 0) else σ
set_option maxHeartbeats 4000000 in
theorem cc_X6_up {S : gx_S} {h : gx_H} {σ : gs_T} {A : gs_A} (R : gs_R h σ A) (hm : σ.1 31 0 0 = 1) (V : gv_V σ) (x b : Int32) : gx_Cn S gm_X6_up 2 [.ref (A 6 0 0), .int x, .int b] h (fun r h' => gs_R h' (sm_up σ x b) A ∧ gs_sm h h' ∧ r = some (.int (gs_bi (0 ≤ x ∧ x < nI (σ.1 100 0 0))))) := by
  refine gx_Cn.of gt_X6_up (by simp [Value.category]) (Nat.le_of_ble_eq_true rfl) ?_
  show gx_Ev S gm_X6_up 2 0 [some (.ref (A 6 0 0)), some (.int x), some (.int b)] [] h _
  refine gx_iload_n dX6_up_0 rfl ?_
  refine gx_aload_n dX6_up_1 rfl ?_
  refine gx_get dX6_up_2 gf_X6_101 (gs_g6 R hm) (v := .int (nI (σ.1 100 0 0))) (rfl) ?_
  refine gx_invS dX6_up_5 wm_X6_120 gt_X6_isIn ws_X6_isIn (As := [.int x, .int (nI (σ.1 100 0 0))]) (rest := []) rfl rfl (Nat.le_of_ble_eq_true rfl) (by decide) (cc_X6_isIn x (nI (σ.1 100 0 0))) (fun r1 h q1 => ?_)
  obtain ⟨rfl, rfl⟩ := q1
  show gx_Ev _ _ _ _ _ [.int (gs_bi (0 ≤ x ∧ x < (nI (σ.1 100 0 0))))] _ _
  refine gx_if_ne dX6_up_8 (tgt := 13) (by decide) (fun hc1 => ?_) (fun hc1 => ?_)
  · have hc1 := gs_b1 hc1
    refine gx_aload_n dX6_up_13 rfl ?_
    refine gx_get dX6_up_14 gf_X6_13 (gs_g6 R hm) (v := .ref (A 22 0 0)) (rfl) ?_
    refine gx_iload_n dX6_up_17 rfl ?_
    refine gx_iload_n dX6_up_18 rfl ?_
    refine gx_if_ne dX6_up_19 (tgt := 26) (by decide) (fun hc2 => ?_) (fun hc2 => ?_)
    · refine gx_iconst dX6_up_26 (v := 0) (by decide) ?_
      refine ga_I102 (σ := σ) hm dX6_up_27 R (by first | exact Or.inl rfl | exact Or.inr rfl) (q := x.toNatClampNeg) (v := 0) ((gs_ixl (N := σ.1 100 0 0) rfl hc1 (by have := gv_n2 V; have := gv_n4 V; have := gv_cnt V; omega)).1) (by have := (gs_ixl (N := σ.1 100 0 0) rfl hc1 (by have := gv_n2 V; have := gv_n4 V; have := gv_cnt V; omega)).2; have := gv_n2 V; have := gv_n4 V; have := gv_cnt V; omega) (fun h R hs0 => ?_)
      refine gx_iconst dX6_up_28 (v := 1) (by decide) ?_
      refine gx_ireturn dX6_up_29 ?_
      exact ⟨⟨_, rfl, rfl⟩, by simpa [sm_up, hc1, hc2] using R, hs0, congrArg (fun z => some (Value.int z)) (gs_bt hc1)⟩
    · refine gx_iconst dX6_up_22 (v := 1) (by decide) ?_
      refine gx_goto dX6_up_23 (tgt := 27) (by decide) ?_
      refine ga_I102 (σ := σ) hm dX6_up_27 R (by first | exact Or.inl rfl | exact Or.inr rfl) (q := x.toNatClampNeg) (v := 1) ((gs_ixl (N := σ.1 100 0 0) rfl hc1 (by have := gv_n2 V; have := gv_n4 V; have := gv_cnt V; omega)).1) (by have := (gs_ixl (N := σ.1 100 0 0) rfl hc1 (by have := gv_n2 V; have := gv_n4 V; have := gv_cnt V; omega)).2; have := gv_n2 V; have := gv_n4 V; have := gv_cnt V; omega) (fun h R hs0 => ?_)
      refine gx_iconst dX6_up_28 (v := 1) (by decide) ?_
      refine gx_ireturn dX6_up_29 ?_
      exact ⟨⟨_, rfl, rfl⟩, by simpa [sm_up, hc1, hc2] using R, hs0, congrArg (fun z => some (Value.int z)) (gs_bt hc1)⟩
  · have hc1 := gs_b0 hc1
    refine gx_iconst dX6_up_11 (v := 0) (by decide) ?_
    refine gx_ireturn dX6_up_12 ?_
    exact ⟨⟨_, rfl, rfl⟩, by simp [sm_up, hc1]; exact R, ⟨rfl, rfl⟩, congrArg (fun z => some (Value.int z)) (gs_bf hc1)⟩
