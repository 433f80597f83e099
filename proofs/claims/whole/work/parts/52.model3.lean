/-! the reference: put, putOthers, move -/
def sm_put (σ : gs_T) (k : Int32) (o f g : Nat) (t : Int32) : gs_T := (gs_n (gs_i (gs_i (gs_i (gs_n (gs_n (gs_n (gs_i σ 126 (σ.1 125 0 0) 0 k) 127 (σ.1 125 0 0) 0 o) 128 (σ.1 125 0 0) 0 f) 129 (σ.1 125 0 0) 0 g) 130 (σ.1 125 0 0) 0 t) 131 (σ.1 125 0 0) 0 (σ.2.1 103 (σ.1 107 o 0) 0)) 132 (σ.1 125 0 0) 0 (σ.2.1 103 (σ.1 108 o 0) 0)) 125 0 0 (σ.1 125 0 0 + 1))
set_option maxHeartbeats 4000000 in
theorem cc_X6_put {S : gx_S} {h : gx_H} {σ : gs_T} {A : gs_A} (R : gs_R h σ A) (hm : σ.1 31 0 0 = 1) (V : gv_V σ) (k : Int32) {o : Nat} (f g : Nat) (t : Int32) (ho : o < 40) (hF : σ.1 125 0 0 < 400) : gx_Cn S gm_X6_put 1 [.ref (A 6 0 0), .int k, .int (nI o), .int (gs_sf f), .int (nI g), .int t] h (fun r h' => gs_R h' (sm_put σ k o f g t) A ∧ gs_sm h h' ∧ r = none) := by
  refine gx_Cn.of gt_X6_put (by simp [Value.category]) (Nat.le_of_ble_eq_true rfl) ?_
  show gx_Ev S gm_X6_put 1 0 [some (.ref (A 6 0 0)), some (.int k), some (.int (nI o)), some (.int (gs_sf f)), some (.int (nI g)), some (.int t)] [] h _
  refine gx_aload_n dX6_put_0 rfl ?_
  refine gx_get dX6_put_1 gf_X6_80 (gs_g6 R hm) (v := .ref (A 46 0 0)) (rfl) ?_
  refine gx_aload_n dX6_put_4 rfl ?_
  refine gx_get dX6_put_5 gf_X6_109 (gs_g6 R hm) (v := .int (nI (σ.1 125 0 0))) (rfl) ?_
  refine gx_iload_n dX6_put_8 rfl ?_
  refine ga_I126 (σ := σ) hm dX6_put_9 R (q := σ.1 125 0 0) (v := k) (rfl) (by first | assumption | (have := gv_n2 V; have := gv_n4 V; have := gv_cnt V; omega) | (have := gv_a V o; omega) | (have := gv_bk V o; omega)) (fun h R hs0 => ?_)
  refine gx_aload_n dX6_put_10 rfl ?_
  refine gx_get dX6_put_11 gf_X6_83 (gs_g6 R hm) (v := .ref (A 47 0 0)) (rfl) ?_
  refine gx_aload_n dX6_put_14 rfl ?_
  refine gx_get dX6_put_15 gf_X6_109 (gs_g6 R hm) (v := .int (nI (σ.1 125 0 0))) (rfl) ?_
  refine gx_iload_n dX6_put_18 rfl ?_
  refine ga_N127 (σ := (gs_i σ 126 (σ.1 125 0 0) 0 k)) hm dX6_put_19 R (rfl) (q := σ.1 125 0 0) (v := o) (rfl) (by first | assumption | (have := gv_n2 V; have := gv_n4 V; have := gv_cnt V; omega) | (have := gv_a V o; omega) | (have := gv_bk V o; omega)) (fun h R hs1 => ?_)
  refine gx_aload_n dX6_put_20 rfl ?_
  refine gx_get dX6_put_21 gf_X6_86 (gs_g6 R hm) (v := .ref (A 48 0 0)) (rfl) ?_
  refine gx_aload_n dX6_put_24 rfl ?_
  refine gx_get dX6_put_25 gf_X6_109 (gs_g6 R hm) (v := .int (nI (σ.1 125 0 0))) (rfl) ?_
  refine gx_iload_n dX6_put_28 rfl ?_
  refine ga_N128 (σ := (gs_n (gs_i σ 126 (σ.1 125 0 0) 0 k) 127 (σ.1 125 0 0) 0 o)) hm dX6_put_29 R (rfl) (q := σ.1 125 0 0) (v := f) (rfl) (by first | assumption | (have := gv_n2 V; have := gv_n4 V; have := gv_cnt V; omega) | (have := gv_a V o; omega) | (have := gv_bk V o; omega)) (fun h R hs2 => ?_)
  refine gx_aload_n dX6_put_30 rfl ?_
  refine gx_get dX6_put_31 gf_X6_89 (gs_g6 R hm) (v := .ref (A 49 0 0)) (rfl) ?_
  refine gx_aload_n dX6_put_34 rfl ?_
  refine gx_get dX6_put_35 gf_X6_109 (gs_g6 R hm) (v := .int (nI (σ.1 125 0 0))) (rfl) ?_
  refine gx_iload dX6_put_38 rfl ?_
  refine ga_N129 (σ := (gs_n (gs_n (gs_i σ 126 (σ.1 125 0 0) 0 k) 127 (σ.1 125 0 0) 0 o) 128 (σ.1 125 0 0) 0 f)) hm dX6_put_40 R (rfl) (q := σ.1 125 0 0) (v := g) (rfl) (by first | assumption | (have := gv_n2 V; have := gv_n4 V; have := gv_cnt V; omega) | (have := gv_a V o; omega) | (have := gv_bk V o; omega)) (fun h R hs3 => ?_)
  refine gx_aload_n dX6_put_41 rfl ?_
  refine gx_get dX6_put_42 gf_X6_92 (gs_g6 R hm) (v := .ref (A 50 0 0)) (rfl) ?_
  refine gx_aload_n dX6_put_45 rfl ?_
  refine gx_get dX6_put_46 gf_X6_109 (gs_g6 R hm) (v := .int (nI (σ.1 125 0 0))) (rfl) ?_
  refine gx_iload dX6_put_49 rfl ?_
  refine ga_I130 (σ := (gs_n (gs_n (gs_n (gs_i σ 126 (σ.1 125 0 0) 0 k) 127 (σ.1 125 0 0) 0 o) 128 (σ.1 125 0 0) 0 f) 129 (σ.1 125 0 0) 0 g)) hm dX6_put_51 R (q := σ.1 125 0 0) (v := t) (rfl) (by first | assumption | (have := gv_n2 V; have := gv_n4 V; have := gv_cnt V; omega) | (have := gv_a V o; omega) | (have := gv_bk V o; omega)) (fun h R hs4 => ?_)
  refine gx_aload_n dX6_put_52 rfl ?_
  refine gx_get dX6_put_53 gf_X6_95 (gs_g6 R hm) (v := .ref (A 51 0 0)) (rfl) ?_
  refine gx_aload_n dX6_put_56 rfl ?_
  refine gx_get dX6_put_57 gf_X6_109 (gs_g6 R hm) (v := .int (nI (σ.1 125 0 0))) (rfl) ?_
  refine gx_aload_n dX6_put_60 rfl ?_
  refine gx_get dX6_put_61 gf_X6_17 (gs_g6 R hm) (v := .ref (A 23 0 0)) (rfl) ?_
  refine gx_aload_n dX6_put_64 rfl ?_
  refine gx_get dX6_put_65 gf_X6_26 (gs_g6 R hm) (v := .ref (A 27 0 0)) (rfl) ?_
  refine gx_iload_n dX6_put_68 rfl ?_
  refine gq_27 dX6_put_69 R hm (q := o) (rfl) (by first | assumption | (have := gv_n2 V; have := gv_n4 V; have := gv_cnt V; omega) | (have := gv_a V o; omega) | (have := gv_bk V o; omega)) (v := nI (σ.1 107 o 0)) (rfl) ?_
  refine gq_23 dX6_put_70 R hm (q := σ.1 107 o 0) (rfl) (by first | assumption | (have := gv_n2 V; have := gv_n4 V; have := gv_cnt V; omega) | (have := gv_a V o; omega) | (have := gv_bk V o; omega)) (v := σ.2.1 103 (σ.1 107 o 0) 0) (rfl) ?_
  refine ga_I131 (σ := (gs_i (gs_n (gs_n (gs_n (gs_i σ 126 (σ.1 125 0 0) 0 k) 127 (σ.1 125 0 0) 0 o) 128 (σ.1 125 0 0) 0 f) 129 (σ.1 125 0 0) 0 g) 130 (σ.1 125 0 0) 0 t)) hm dX6_put_71 R (q := σ.1 125 0 0) (v := σ.2.1 103 (σ.1 107 o 0) 0) (rfl) (by first | assumption | (have := gv_n2 V; have := gv_n4 V; have := gv_cnt V; omega) | (have := gv_a V o; omega) | (have := gv_bk V o; omega)) (fun h R hs5 => ?_)
  refine gx_aload_n dX6_put_72 rfl ?_
  refine gx_get dX6_put_73 gf_X6_98 (gs_g6 R hm) (v := .ref (A 52 0 0)) (rfl) ?_
  refine gx_aload_n dX6_put_76 rfl ?_
  refine gx_get dX6_put_77 gf_X6_109 (gs_g6 R hm) (v := .int (nI (σ.1 125 0 0))) (rfl) ?_
  refine gx_aload_n dX6_put_80 rfl ?_
  refine gx_get dX6_put_81 gf_X6_17 (gs_g6 R hm) (v := .ref (A 23 0 0)) (rfl) ?_
  refine gx_aload_n dX6_put_84 rfl ?_
  refine gx_get dX6_put_85 gf_X6_29 (gs_g6 R hm) (v := .ref (A 28 0 0)) (rfl) ?_
  refine gx_iload_n dX6_put_88 rfl ?_
  refine gq_28 dX6_put_89 R hm (q := o) (rfl) (by first | assumption | (have := gv_n2 V; have := gv_n4 V; have := gv_cnt V; omega) | (have := gv_a V o; omega) | (have := gv_bk V o; omega)) (v := nI (σ.1 108 o 0)) (rfl) ?_
  refine gq_23 dX6_put_90 R hm (q := σ.1 108 o 0) (rfl) (by first | assumption | (have := gv_n2 V; have := gv_n4 V; have := gv_cnt V; omega) | (have := gv_a V o; omega) | (have := gv_bk V o; omega)) (v := σ.2.1 103 (σ.1 108 o 0) 0) (rfl) ?_
  refine ga_I132 (σ := (gs_i (gs_i (gs_n (gs_n (gs_n (gs_i σ 126 (σ.1 125 0 0) 0 k) 127 (σ.1 125 0 0) 0 o) 128 (σ.1 125 0 0) 0 f) 129 (σ.1 125 0 0) 0 g) 130 (σ.1 125 0 0) 0 t) 131 (σ.1 125 0 0) 0 (σ.2.1 103 (σ.1 107 o 0) 0))) hm dX6_put_91 R (q := σ.1 125 0 0) (v := σ.2.1 103 (σ.1 108 o 0) 0) (rfl) (by first | assumption | (have := gv_n2 V; have := gv_n4 V; have := gv_cnt V; omega) | (have := gv_a V o; omega) | (have := gv_bk V o; omega)) (fun h R hs6 => ?_)
  refine gx_aload_n dX6_put_92 rfl ?_
  refine gx_dup dX6_put_93 rfl ?_
  refine gx_get dX6_put_94 gf_X6_109 (gs_g6 R hm) (v := .int (nI (σ.1 125 0 0))) (rfl) ?_
  refine gx_iconst dX6_put_97 (v := 1) (by decide) ?_
  refine gx_iadd dX6_put_98 ?_
  rw [show ((nI (σ.1 125 0 0)) + 1 : Int32) = nI (σ.1 125 0 0 + 1) from nI_1 _]
  refine gp_N125 (σ := (gs_i (gs_i (gs_i (gs_n (gs_n (gs_n (gs_i σ 126 (σ.1 125 0 0) 0 k) 127 (σ.1 125 0 0) 0 o) 128 (σ.1 125 0 0) 0 f) 129 (σ.1 125 0 0) 0 g) 130 (σ.1 125 0 0) 0 t) 131 (σ.1 125 0 0) 0 (σ.2.1 103 (σ.1 107 o 0) 0)) 132 (σ.1 125 0 0) 0 (σ.2.1 103 (σ.1 108 o 0) 0))) hm dX6_put_99 gf_X6_109 R (rfl) (v := σ.1 125 0 0 + 1) (fun h R hs7 => ?_)
  refine gx_return dX6_put_102 ?_
  exact ⟨rfl, R, ((((((((gs_sm.rfl.trans hs0).trans hs1).trans hs2).trans hs3).trans hs4).trans hs5).trans hs6).trans hs7), rfl⟩
def sm_move (σ : gs_T) (i j : Nat) : gs_T := (gs_i (gs_i (gs_i (gs_n (gs_n (gs_n (gs_i σ 126 j 0 (σ.2.1 126 i 0)) 127 j 0 (σ.1 127 i 0)) 128 j 0 (σ.1 128 i 0)) 129 j 0 (σ.1 129 i 0)) 130 j 0 (σ.2.1 130 i 0)) 131 j 0 (σ.2.1 131 i 0)) 132 j 0 (σ.2.1 132 i 0))
set_option maxHeartbeats 4000000 in
theorem cc_X6_move {S : gx_S} {h : gx_H} {σ : gs_T} {A : gs_A} (R : gs_R h σ A) (hm : σ.1 31 0 0 = 1) (V : gv_V σ) {i j : Nat} (hi : i < 400) (hj : j < 400) : gx_Cn S gm_X6_move 1 [.ref (A 6 0 0), .int (nI i), .int (nI j)] h (fun r h' => gs_R h' (sm_move σ i j) A ∧ gs_sm h h' ∧ r = none) := by
  refine gx_Cn.of gt_X6_move (by simp [Value.category]) (Nat.le_of_ble_eq_true rfl) ?_
  show gx_Ev S gm_X6_move 1 0 [some (.ref (A 6 0 0)), some (.int (nI i)), some (.int (nI j))] [] h _
  refine gx_aload_n dX6_move_0 rfl ?_
  refine gx_get dX6_move_1 gf_X6_80 (gs_g6 R hm) (v := .ref (A 46 0 0)) (rfl) ?_
  refine gx_iload_n dX6_move_4 rfl ?_
  refine gx_aload_n dX6_move_5 rfl ?_
  refine gx_get dX6_move_6 gf_X6_80 (gs_g6 R hm) (v := .ref (A 46 0 0)) (rfl) ?_
  refine gx_iload_n dX6_move_9 rfl ?_
  refine gq_46 dX6_move_10 R hm (q := i) (rfl) (by first | assumption | (have := gv_n2 V; have := gv_n4 V; have := gv_cnt V; omega) | (have := gv_a V o; omega) | (have := gv_bk V o; omega)) (v := σ.2.1 126 i 0) (rfl) ?_
  refine ga_I126 (σ := σ) hm dX6_move_11 R (q := j) (v := σ.2.1 126 i 0) (rfl) (by first | assumption | (have := gv_n2 V; have := gv_n4 V; have := gv_cnt V; omega) | (have := gv_a V o; omega) | (have := gv_bk V o; omega)) (fun h R hs0 => ?_)
  refine gx_aload_n dX6_move_12 rfl ?_
  refine gx_get dX6_move_13 gf_X6_83 (gs_g6 R hm) (v := .ref (A 47 0 0)) (rfl) ?_
  refine gx_iload_n dX6_move_16 rfl ?_
  refine gx_aload_n dX6_move_17 rfl ?_
  refine gx_get dX6_move_18 gf_X6_83 (gs_g6 R hm) (v := .ref (A 47 0 0)) (rfl) ?_
  refine gx_iload_n dX6_move_21 rfl ?_
  refine gq_47 dX6_move_22 R hm (q := i) (rfl) (by first | assumption | (have := gv_n2 V; have := gv_n4 V; have := gv_cnt V; omega) | (have := gv_a V o; omega) | (have := gv_bk V o; omega)) (v := nI (σ.1 127 i 0)) (rfl) ?_
  refine ga_N127 (σ := (gs_i σ 126 j 0 (σ.2.1 126 i 0))) hm dX6_move_23 R (rfl) (q := j) (v := σ.1 127 i 0) (rfl) (by first | assumption | (have := gv_n2 V; have := gv_n4 V; have := gv_cnt V; omega) | (have := gv_a V o; omega) | (have := gv_bk V o; omega)) (fun h R hs1 => ?_)
  refine gx_aload_n dX6_move_24 rfl ?_
  refine gx_get dX6_move_25 gf_X6_86 (gs_g6 R hm) (v := .ref (A 48 0 0)) (rfl) ?_
  refine gx_iload_n dX6_move_28 rfl ?_
  refine gx_aload_n dX6_move_29 rfl ?_
  refine gx_get dX6_move_30 gf_X6_86 (gs_g6 R hm) (v := .ref (A 48 0 0)) (rfl) ?_
  refine gx_iload_n dX6_move_33 rfl ?_
  refine gq_48 dX6_move_34 R hm (q := i) (rfl) (by first | assumption | (have := gv_n2 V; have := gv_n4 V; have := gv_cnt V; omega) | (have := gv_a V o; omega) | (have := gv_bk V o; omega)) (v := gs_sf (σ.1 128 i 0)) (rfl) ?_
  refine ga_N128 (σ := (gs_n (gs_i σ 126 j 0 (σ.2.1 126 i 0)) 127 j 0 (σ.1 127 i 0))) hm dX6_move_35 R (rfl) (q := j) (v := σ.1 128 i 0) (rfl) (by first | assumption | (have := gv_n2 V; have := gv_n4 V; have := gv_cnt V; omega) | (have := gv_a V o; omega) | (have := gv_bk V o; omega)) (fun h R hs2 => ?_)
  refine gx_aload_n dX6_move_36 rfl ?_
  refine gx_get dX6_move_37 gf_X6_89 (gs_g6 R hm) (v := .ref (A 49 0 0)) (rfl) ?_
  refine gx_iload_n dX6_move_40 rfl ?_
  refine gx_aload_n dX6_move_41 rfl ?_
  refine gx_get dX6_move_42 gf_X6_89 (gs_g6 R hm) (v := .ref (A 49 0 0)) (rfl) ?_
  refine gx_iload_n dX6_move_45 rfl ?_
  refine gq_49 dX6_move_46 R hm (q := i) (rfl) (by first | assumption | (have := gv_n2 V; have := gv_n4 V; have := gv_cnt V; omega) | (have := gv_a V o; omega) | (have := gv_bk V o; omega)) (v := nI (σ.1 129 i 0)) (rfl) ?_
  refine ga_N129 (σ := (gs_n (gs_n (gs_i σ 126 j 0 (σ.2.1 126 i 0)) 127 j 0 (σ.1 127 i 0)) 128 j 0 (σ.1 128 i 0))) hm dX6_move_47 R (rfl) (q := j) (v := σ.1 129 i 0) (rfl) (by first | assumption | (have := gv_n2 V; have := gv_n4 V; have := gv_cnt V; omega) | (have := gv_a V o; omega) | (have := gv_bk V o; omega)) (fun h R hs3 => ?_)
  refine gx_aload_n dX6_move_48 rfl ?_
  refine gx_get dX6_move_49 gf_X6_92 (gs_g6 R hm) (v := .ref (A 50 0 0)) (rfl) ?_
  refine gx_iload_n dX6_move_52 rfl ?_
  refine gx_aload_n dX6_move_53 rfl ?_
  refine gx_get dX6_move_54 gf_X6_92 (gs_g6 R hm) (v := .ref (A 50 0 0)) (rfl) ?_
  refine gx_iload_n dX6_move_57 rfl ?_
  refine gq_50 dX6_move_58 R hm (q := i) (rfl) (by first | assumption | (have := gv_n2 V; have := gv_n4 V; have := gv_cnt V; omega) | (have := gv_a V o; omega) | (have := gv_bk V o; omega)) (v := σ.2.1 130 i 0) (rfl) ?_
  refine ga_I130 (σ := (gs_n (gs_n (gs_n (gs_i σ 126 j 0 (σ.2.1 126 i 0)) 127 j 0 (σ.1 127 i 0)) 128 j 0 (σ.1 128 i 0)) 129 j 0 (σ.1 129 i 0))) hm dX6_move_59 R (q := j) (v := σ.2.1 130 i 0) (rfl) (by first | assumption | (have := gv_n2 V; have := gv_n4 V; have := gv_cnt V; omega) | (have := gv_a V o; omega) | (have := gv_bk V o; omega)) (fun h R hs4 => ?_)
  refine gx_aload_n dX6_move_60 rfl ?_
  refine gx_get dX6_move_61 gf_X6_95 (gs_g6 R hm) (v := .ref (A 51 0 0)) (rfl) ?_
  refine gx_iload_n dX6_move_64 rfl ?_
  refine gx_aload_n dX6_move_65 rfl ?_
  refine gx_get dX6_move_66 gf_X6_95 (gs_g6 R hm) (v := .ref (A 51 0 0)) (rfl) ?_
  refine gx_iload_n dX6_move_69 rfl ?_
  refine gq_51 dX6_move_70 R hm (q := i) (rfl) (by first | assumption | (have := gv_n2 V; have := gv_n4 V; have := gv_cnt V; omega) | (have := gv_a V o; omega) | (have := gv_bk V o; omega)) (v := σ.2.1 131 i 0) (rfl) ?_
  refine ga_I131 (σ := (gs_i (gs_n (gs_n (gs_n (gs_i σ 126 j 0 (σ.2.1 126 i 0)) 127 j 0 (σ.1 127 i 0)) 128 j 0 (σ.1 128 i 0)) 129 j 0 (σ.1 129 i 0)) 130 j 0 (σ.2.1 130 i 0))) hm dX6_move_71 R (q := j) (v := σ.2.1 131 i 0) (rfl) (by first | assumption | (have := gv_n2 V; have := gv_n4 V; have := gv_cnt V; omega) | (have := gv_a V o; omega) | (have := gv_bk V o; omega)) (fun h R hs5 => ?_)
  refine gx_aload_n dX6_move_72 rfl ?_
  refine gx_get dX6_move_73 gf_X6_98 (gs_g6 R hm) (v := .ref (A 52 0 0)) (rfl) ?_
  refine gx_iload_n dX6_move_76 rfl ?_
  refine gx_aload_n dX6_move_77 rfl ?_
  refine gx_get dX6_move_78 gf_X6_98 (gs_g6 R hm) (v := .ref (A 52 0 0)) (rfl) ?_
  refine gx_iload_n dX6_move_81 rfl ?_
  refine gq_52 dX6_move_82 R hm (q := i) (rfl) (by first | assumption | (have := gv_n2 V; have := gv_n4 V; have := gv_cnt V; omega) | (have := gv_a V o; omega) | (have := gv_bk V o; omega)) (v := σ.2.1 132 i 0) (rfl) ?_
  refine ga_I132 (σ := (gs_i (gs_i (gs_n (gs_n (gs_n (gs_i σ 126 j 0 (σ.2.1 126 i 0)) 127 j 0 (σ.1 127 i 0)) 128 j 0 (σ.1 128 i 0)) 129 j 0 (σ.1 129 i 0)) 130 j 0 (σ.2.1 130 i 0)) 131 j 0 (σ.2.1 131 i 0))) hm dX6_move_83 R (q := j) (v := σ.2.1 132 i 0) (rfl) (by first | assumption | (have := gv_n2 V; have := gv_n4 V; have := gv_cnt V; omega) | (have := gv_a V o; omega) | (have := gv_bk V o; omega)) (fun h R hs6 => ?_)
  refine gx_return dX6_move_84 ?_
  exact ⟨rfl, R, (((((((gs_sm.rfl.trans hs0).trans hs1).trans hs2).trans hs3).trans hs4).trans hs5).trans hs6), rfl⟩
def sm_po1 (σ : gs_T) (k : Int32) (o f : Nat) (t : Int32) (g : Nat) : gs_T := if ¬ f = g + 1 ∧ gv_of σ g o then sm_put σ k o f g t else σ
def sm_po (σ : gs_T) (k : Int32) (o f : Nat) (t : Int32) (g : Nat) : gs_T := match g with
  | 0 => σ
  | g + 1 => sm_po1 (sm_po σ k o f t g) k o f t g
theorem gv_put {σ : gs_T} {k : Int32} {o f g : Nat} {t : Int32} (V : gv_V σ) (ho : o < 40) (hf : f ≤ σ.1 100 0 0) (hg : g < σ.1 100 0 0) : gv_V (sm_put σ k o f g t) :=
  gv_n (gv_i (gv_i (gv_i (gv_n (gv_n (gv_n (gv_i V) (by decide) ho) (by decide) hf) (by decide) hg)))) (by decide) trivial
theorem sm_po_keep {σ : gs_T} {k : Int32} {o f : Nat} {t : Int32} (V : gv_V σ) (ho : o < 40) (hf : f ≤ σ.1 100 0 0) (g : Nat) (hg : g ≤ σ.1 100 0 0) : gv_V (sm_po σ k o f t g) ∧ (sm_po σ k o f t g).1 100 0 0 = σ.1 100 0 0 ∧ (sm_po σ k o f t g).1 31 0 0 = σ.1 31 0 0 ∧ (sm_po σ k o f t g).1 125 0 0 ≤ σ.1 125 0 0 + g := by
  induction g with
  | zero => exact ⟨V, rfl, rfl, Nat.le_refl _⟩
  | succ g ih =>
    obtain ⟨i1, i2, i3, i4⟩ := ih (by omega)
    show gv_V (sm_po1 _ k o f t g) ∧ (sm_po1 _ k o f t g).1 100 0 0 = _ ∧ (sm_po1 _ k o f t g).1 31 0 0 = _ ∧ (sm_po1 _ k o f t g).1 125 0 0 ≤ _
    unfold sm_po1
    split
    · refine ⟨gv_put i1 ho (by rw [i2]; exact hf) (by rw [i2]; omega), i2, i3, ?_⟩
      show (sm_po σ k o f t g).1 125 0 0 + 1 ≤ _
      omega
    · exact ⟨i1, i2, i3, by omega⟩
theorem gs_sf_inj {g f : Nat} (hg : g < 2 ^ 31) (hf : f < 2 ^ 31) (h : nI g = gs_sf f) : f = g + 1 := by
  cases f with
  | zero =>
    exfalso
    have h2 : nI g = -1 := h
    have h3 := nI_pos hg
    rw [h2] at h3
    exact h3 (by decide)
  | succ f =>
    have h2 : nI g = nI f := h
    rw [nI_eq hg (by omega)] at h2
    omega
set_option maxHeartbeats 4000000 in
theorem cl_X6_putOthers {S : gx_S} {h0 : gx_H} {σ : gs_T} {A : gs_A} (hm0 : σ.1 31 0 0 = 1) (V0 : gv_V σ) (k : Int32) {o f : Nat} (t : Int32) (ho : o < 40) (hf : f ≤ σ.1 100 0 0) (hF0 : σ.1 125 0 0 + 4 ≤ 400) : ∀ (m g : Nat) (h : gx_H), g + m = σ.1 100 0 0 → gs_R h (sm_po σ k o f t g) A → gs_sm h0 h → gx_Ev S gm_X6_putOthers 2 3 [some (.ref (A 6 0 0)), some (.int k), some (.int (nI o)), some (.int (gs_sf f)), some (.int t), some (.int (nI g))] [] h (fun r h' => gx_rt none r ∧ gs_R h' (sm_po σ k o f t (σ.1 100 0 0)) A ∧ gs_sm h0 h' ∧ r = none) := by
  intro m
  induction m with
  | zero =>
    intro g h hgm R0 hs
    have hgn : g = σ.1 100 0 0 := by omega
    obtain ⟨V, e1, e2, e3⟩ := sm_po_keep (k := k) (t := t) V0 ho hf g (by omega)
    have hm : (sm_po σ k o f t g).1 31 0 0 = 1 := by rw [e2]; exact hm0
    generalize hτ : sm_po σ k o f t g = τ at *
    have R := R0
    refine gx_iload dX6_putOthers_3 rfl ?_
    refine gx_aload_n dX6_putOthers_5 rfl ?_
    refine gx_get dX6_putOthers_6 gf_X6_101 (gs_g6 R hm) (v := .int (nI (τ.1 100 0 0))) (rfl) ?_
    refine gx_icmp_ge dX6_putOthers_9 (tgt := 45) (by decide) (fun hc1 => ?_) (fun hc1 => absurd hc1 (fun z => z (by rw [e1, hgn]; exact nI_le (Nat.le_refl _) (by have := gv_n4 V0; omega))))
    refine gx_return dX6_putOthers_45 ?_
    exact ⟨rfl, by rw [← hgn, hτ]; exact R, hs, rfl⟩
  | succ m ih =>
    intro g h hgm R0 hs
    have hgn : g < σ.1 100 0 0 := by omega
    obtain ⟨V, e1, e2, e3⟩ := sm_po_keep (k := k) (t := t) V0 ho hf g (by omega)
    have hm : (sm_po σ k o f t g).1 31 0 0 = 1 := by rw [e2]; exact hm0
    have hn4 := gv_n4 V0
    have hsucc : sm_po σ k o f t (g + 1) = sm_po1 (sm_po σ k o f t g) k o f t g := rfl
    generalize hτ : sm_po σ k o f t g = τ at *
    have R := R0
    refine gx_iload dX6_putOthers_3 rfl ?_
    refine gx_aload_n dX6_putOthers_5 rfl ?_
    refine gx_get dX6_putOthers_6 gf_X6_101 (gs_g6 R hm) (v := .int (nI (τ.1 100 0 0))) (rfl) ?_
    refine gx_icmp_ge dX6_putOthers_9 (tgt := 45) (by decide) (fun hc0 => absurd hc0 (by rw [e1]; exact nI_ge (by omega) (by omega))) (fun hc0 => ?_)
    refine gx_iload dX6_putOthers_12 rfl ?_
    refine gx_iload_n dX6_putOthers_14 rfl ?_
    refine gx_icmp_eq dX6_putOthers_15 (tgt := 39) (by decide) (fun hc1 => ?_) (fun hc1 => ?_)
    · refine gx_iinc dX6_putOthers_39 rfl (v := nI (g + 1)) (nI_1 _) (by decide) rfl (L' := [some (.ref (A 6 0 0)), some (.int k), some (.int (nI o)), some (.int (gs_sf f)), some (.int t), some (.int (nI (g + 1)))]) rfl ?_
      refine gx_goto dX6_putOthers_42 (tgt := 3) (by decide) ?_
      refine ih (g + 1) _ (by omega) ?_ hs
      rw [hsucc, sm_po1, if_neg (fun e => e.1 (gs_sf_inj (by omega) (by omega) hc1))]
      exact R
    · refine gx_aload_n dX6_putOthers_18 rfl ?_
      refine gx_iload dX6_putOthers_19 rfl ?_
      refine gx_iload_n dX6_putOthers_21 rfl ?_
      refine gx_invV dX6_putOthers_22 wm_X6_112 gt_X6_isOf wy_X6_isOf wl_X6_isOf (ci := 6) rfl rfl (gs_g6 R hm) (As := [.int (nI g), .int (nI o)]) (rest := []) rfl rfl (Nat.le_of_ble_eq_true rfl) (by decide) (cc_X6_isOf R hm V (g := g) (o := o) (by omega) (ho)) (fun r1 h q1 => ?_)
      obtain ⟨rfl, rfl⟩ := q1
      show gx_Ev _ _ _ _ _ [.int (gs_bi (gv_of τ g o))] _ _
      refine gx_if_eq dX6_putOthers_25 (tgt := 39) (by decide) (fun hc2 => ?_) (fun hc2 => ?_)
      · have hc2 := gs_b0 hc2
        refine gx_iinc dX6_putOthers_39 rfl (v := nI (g + 1)) (nI_1 _) (by decide) rfl (L' := [some (.ref (A 6 0 0)), some (.int k), some (.int (nI o)), some (.int (gs_sf f)), some (.int t), some (.int (nI (g + 1)))]) rfl ?_
        refine gx_goto dX6_putOthers_42 (tgt := 3) (by decide) ?_
        refine ih (g + 1) _ (by omega) ?_ hs
        rw [hsucc, sm_po1, if_neg (fun e => hc2 e.2)]
        exact R
      · have hc2 := gs_b1 hc2
        refine gx_aload_n dX6_putOthers_28 rfl ?_
        refine gx_iload_n dX6_putOthers_29 rfl ?_
        refine gx_iload_n dX6_putOthers_30 rfl ?_
        refine gx_iload_n dX6_putOthers_31 rfl ?_
        refine gx_iload dX6_putOthers_32 rfl ?_
        refine gx_iload dX6_putOthers_34 rfl ?_
        refine gx_invV dX6_putOthers_36 wm_X6_116 gt_X6_put wy_X6_put wl_X6_put (ci := 6) rfl rfl (gs_g6 R hm) (As := [.int k, .int (nI o), .int (gs_sf f), .int (nI g), .int t]) (rest := []) rfl rfl (Nat.le_of_ble_eq_true rfl) (by decide) (cc_X6_put R hm V k (o := o) f g t (ho) (by omega)) (fun r1 h q1 => ?_)
        obtain ⟨R, hs0, rfl⟩ := q1
        show gx_Ev _ _ _ _ _ [] _ _
        refine gx_iinc dX6_putOthers_39 rfl (v := nI (g + 1)) (nI_1 _) (by decide) rfl (L' := [some (.ref (A 6 0 0)), some (.int k), some (.int (nI o)), some (.int (gs_sf f)), some (.int t), some (.int (nI (g + 1)))]) rfl ?_
        refine gx_goto dX6_putOthers_42 (tgt := 3) (by decide) ?_
        refine ih (g + 1) _ (by omega) ?_ (hs.trans hs0)
        rw [hsucc, sm_po1, if_pos ⟨fun e => hc1 (by rw [e]; rfl), hc2⟩]
        exact R
set_option maxHeartbeats 4000000 in
theorem cc_X6_putOthers {S : gx_S} {h : gx_H} {σ : gs_T} {A : gs_A} (R : gs_R h σ A) (hm : σ.1 31 0 0 = 1) (V : gv_V σ) (k : Int32) {o f : Nat} (t : Int32) (ho : o < 40) (hf : f ≤ σ.1 100 0 0) (hF : σ.1 125 0 0 + 4 ≤ 400) : gx_Cn S gm_X6_putOthers 2 [.ref (A 6 0 0), .int k, .int (nI o), .int (gs_sf f), .int t] h (fun r h' => gs_R h' (sm_po σ k o f t (σ.1 100 0 0)) A ∧ gs_sm h h' ∧ r = none) := by
  refine gx_Cn.of gt_X6_putOthers (by simp [Value.category]) (Nat.le_of_ble_eq_true rfl) ?_
  show gx_Ev S gm_X6_putOthers 2 0 [some (.ref (A 6 0 0)), some (.int k), some (.int (nI o)), some (.int (gs_sf f)), some (.int t), none] [] h _
  refine gx_iconst dX6_putOthers_0 (v := 0) (by decide) ?_
  refine gx_istore dX6_putOthers_1 (by decide) rfl (L' := [some (.ref (A 6 0 0)), some (.int k), some (.int (nI o)), some (.int (gs_sf f)), some (.int t), some (.int 0)]) rfl ?_
  exact cl_X6_putOthers hm V k t ho hf hF _ 0 _ (Nat.zero_add _) R gs_sm.rfl
