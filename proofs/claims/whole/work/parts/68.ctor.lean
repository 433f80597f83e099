/-! the constructors of the small objects -/
set_option maxHeartbeats 4000000 in
theorem cc_X2_init {S : gx_S} {h : gx_H} {a : Nat} {v0 v1 v2 v3 : Value} (k f : Int32) (p : Nat) (c : Int32) (hA : h.2.2 a = some (gx_ob 2 [v0, v1, v2, v3])) : gx_Cn S gm_X2_init 1 [.ref a, .int k, .int f, .ref p, .int c] h (fun r h' => h' = gx_set h a (gx_ob 2 [.int k, .int f, .ref p, .int c]) ∧ r = none) := by
  refine gx_Cn.of gt_X2_init (by simp [Value.category]) (Nat.le_of_ble_eq_true rfl) ?_
  show gx_Ev S gm_X2_init 1 0 [some (.ref a), some (.int k), some (.int f), some (.ref p), some (.int c)] [] h _
  refine gx_aload_n dX2_init_0 rfl ?_
  refine gx_objI dX2_init_1 wm_X2_1 (Nat.le_of_ble_eq_true rfl) (by decide) ?_
  refine gx_aload_n dX2_init_4 rfl ?_
  refine gx_iload_n dX2_init_5 rfl ?_
  refine gx_putF dX2_init_6 gf_X2_7 rfl (fun r hr => by cases hr; rfl) hA (by simp) rfl rfl ?_
  show gx_Ev _ _ _ _ _ [] (gx_set h a (gx_ob 2 [.int k, v1, v2, v3])) _
  have hA : (gx_set h a (gx_ob 2 [.int k, v1, v2, v3])).2.2 a = some (gx_ob 2 [.int k, v1, v2, v3]) := gx_set_at _ _ _
  refine gx_aload_n dX2_init_9 rfl ?_
  refine gx_iload_n dX2_init_10 rfl ?_
  refine gx_putF dX2_init_11 gf_X2_13 rfl (fun r hr => by cases hr; rfl) hA (by simp) rfl rfl ?_
  show gx_Ev _ _ _ _ _ [] (gx_set (gx_set h a (gx_ob 2 [.int k, v1, v2, v3])) a (gx_ob 2 [.int k, .int f, v2, v3])) _
  have hA : (gx_set (gx_set h a (gx_ob 2 [.int k, v1, v2, v3])) a (gx_ob 2 [.int k, .int f, v2, v3])).2.2 a = some (gx_ob 2 [.int k, .int f, v2, v3]) := gx_set_at _ _ _
  refine gx_aload_n dX2_init_14 rfl ?_
  refine gx_aload_n dX2_init_15 rfl ?_
  refine gx_putF dX2_init_16 gf_X2_16 rfl (fun r hr => by cases hr; rfl) hA (by simp) rfl rfl ?_
  show gx_Ev _ _ _ _ _ [] (gx_set (gx_set (gx_set h a (gx_ob 2 [.int k, v1, v2, v3])) a (gx_ob 2 [.int k, .int f, v2, v3])) a (gx_ob 2 [.int k, .int f, .ref p, v3])) _
  have hA : (gx_set (gx_set (gx_set h a (gx_ob 2 [.int k, v1, v2, v3])) a (gx_ob 2 [.int k, .int f, v2, v3])) a (gx_ob 2 [.int k, .int f, .ref p, v3])).2.2 a = some (gx_ob 2 [.int k, .int f, .ref p, v3]) := gx_set_at _ _ _
  refine gx_aload_n dX2_init_19 rfl ?_
  refine gx_iload dX2_init_20 rfl ?_
  refine gx_putF dX2_init_22 gf_X2_20 rfl (fun r hr => by cases hr; rfl) hA (by simp) rfl rfl ?_
  show gx_Ev _ _ _ _ _ [] (gx_set (gx_set (gx_set (gx_set h a (gx_ob 2 [.int k, v1, v2, v3])) a (gx_ob 2 [.int k, .int f, v2, v3])) a (gx_ob 2 [.int k, .int f, .ref p, v3])) a (gx_ob 2 [.int k, .int f, .ref p, .int c])) _
  have hA : (gx_set (gx_set (gx_set (gx_set h a (gx_ob 2 [.int k, v1, v2, v3])) a (gx_ob 2 [.int k, .int f, v2, v3])) a (gx_ob 2 [.int k, .int f, .ref p, v3])) a (gx_ob 2 [.int k, .int f, .ref p, .int c])).2.2 a = some (gx_ob 2 [.int k, .int f, .ref p, .int c]) := gx_set_at _ _ _
  refine gx_return dX2_init_25 ?_
  exact ⟨rfl, by simp only [gx_set_set], rfl⟩
set_option maxHeartbeats 4000000 in
theorem cc_X4_init {S : gx_S} {h : gx_H} {a : Nat} {v0 v1 v3 v4 v5 : Value} (p : Nat) (g : Int32) (hA : h.2.2 a = some (gx_ob 4 [v0, v1, .null, v3, v4, v5, .int 0, .int 0, .int 0, .int 0, .int 0])) : gx_Cn S gm_X4_init 1 [.ref a, .ref p, .int g] h (fun r h' => h' = gx_set h a (gx_ob 4 [.ref p, .int g, .null, .int (-1), .int (-1), .int (-1), .int 0, .int 0, .int 0, .int 0, .int 0]) ∧ r = none) := by
  refine gx_Cn.of gt_X4_init (by simp [Value.category]) (Nat.le_of_ble_eq_true rfl) ?_
  show gx_Ev S gm_X4_init 1 0 [some (.ref a), some (.ref p), some (.int g)] [] h _
  refine gx_aload_n dX4_init_0 rfl ?_
  refine gx_objI dX4_init_1 wm_X4_3 (Nat.le_of_ble_eq_true rfl) (by decide) ?_
  refine gx_aload_n dX4_init_4 rfl ?_
  refine gx_iconst dX4_init_5 (v := (-1)) (by decide) ?_
  refine gx_put dX4_init_6 gf_X4_9 hA (by simp) rfl rfl ?_
  show gx_Ev _ _ _ _ _ [] (gx_set h a (gx_ob 4 [v0, v1, .null, .int (-1), v4, v5, .int 0, .int 0, .int 0, .int 0, .int 0])) _
  have hA : (gx_set h a (gx_ob 4 [v0, v1, .null, .int (-1), v4, v5, .int 0, .int 0, .int 0, .int 0, .int 0])).2.2 a = some (gx_ob 4 [v0, v1, .null, .int (-1), v4, v5, .int 0, .int 0, .int 0, .int 0, .int 0]) := gx_set_at _ _ _
  refine gx_aload_n dX4_init_9 rfl ?_
  refine gx_iconst dX4_init_10 (v := (-1)) (by decide) ?_
  refine gx_put dX4_init_11 gf_X4_15 hA (by simp) rfl rfl ?_
  show gx_Ev _ _ _ _ _ [] (gx_set (gx_set h a (gx_ob 4 [v0, v1, .null, .int (-1), v4, v5, .int 0, .int 0, .int 0, .int 0, .int 0])) a (gx_ob 4 [v0, v1, .null, .int (-1), .int (-1), v5, .int 0, .int 0, .int 0, .int 0, .int 0])) _
  have hA : (gx_set (gx_set h a (gx_ob 4 [v0, v1, .null, .int (-1), v4, v5, .int 0, .int 0, .int 0, .int 0, .int 0])) a (gx_ob 4 [v0, v1, .null, .int (-1), .int (-1), v5, .int 0, .int 0, .int 0, .int 0, .int 0])).2.2 a = some (gx_ob 4 [v0, v1, .null, .int (-1), .int (-1), v5, .int 0, .int 0, .int 0, .int 0, .int 0]) := gx_set_at _ _ _
  refine gx_aload_n dX4_init_14 rfl ?_
  refine gx_iconst dX4_init_15 (v := (-1)) (by decide) ?_
  refine gx_put dX4_init_16 gf_X4_18 hA (by simp) rfl rfl ?_
  show gx_Ev _ _ _ _ _ [] (gx_set (gx_set (gx_set h a (gx_ob 4 [v0, v1, .null, .int (-1), v4, v5, .int 0, .int 0, .int 0, .int 0, .int 0])) a (gx_ob 4 [v0, v1, .null, .int (-1), .int (-1), v5, .int 0, .int 0, .int 0, .int 0, .int 0])) a (gx_ob 4 [v0, v1, .null, .int (-1), .int (-1), .int (-1), .int 0, .int 0, .int 0, .int 0, .int 0])) _
  have hA : (gx_set (gx_set (gx_set h a (gx_ob 4 [v0, v1, .null, .int (-1), v4, v5, .int 0, .int 0, .int 0, .int 0, .int 0])) a (gx_ob 4 [v0, v1, .null, .int (-1), .int (-1), v5, .int 0, .int 0, .int 0, .int 0, .int 0])) a (gx_ob 4 [v0, v1, .null, .int (-1), .int (-1), .int (-1), .int 0, .int 0, .int 0, .int 0, .int 0])).2.2 a = some (gx_ob 4 [v0, v1, .null, .int (-1), .int (-1), .int (-1), .int 0, .int 0, .int 0, .int 0, .int 0]) := gx_set_at _ _ _
  refine gx_aload_n dX4_init_19 rfl ?_
  refine gx_aload_n dX4_init_20 rfl ?_
  refine gx_putF dX4_init_21 gf_X4_21 rfl (fun r hr => by cases hr; rfl) hA (by simp) rfl rfl ?_
  show gx_Ev _ _ _ _ _ [] (gx_set (gx_set (gx_set (gx_set h a (gx_ob 4 [v0, v1, .null, .int (-1), v4, v5, .int 0, .int 0, .int 0, .int 0, .int 0])) a (gx_ob 4 [v0, v1, .null, .int (-1), .int (-1), v5, .int 0, .int 0, .int 0, .int 0, .int 0])) a (gx_ob 4 [v0, v1, .null, .int (-1), .int (-1), .int (-1), .int 0, .int 0, .int 0, .int 0, .int 0])) a (gx_ob 4 [.ref p, v1, .null, .int (-1), .int (-1), .int (-1), .int 0, .int 0, .int 0, .int 0, .int 0])) _
  have hA : (gx_set (gx_set (gx_set (gx_set h a (gx_ob 4 [v0, v1, .null, .int (-1), v4, v5, .int 0, .int 0, .int 0, .int 0, .int 0])) a (gx_ob 4 [v0, v1, .null, .int (-1), .int (-1), v5, .int 0, .int 0, .int 0, .int 0, .int 0])) a (gx_ob 4 [v0, v1, .null, .int (-1), .int (-1), .int (-1), .int 0, .int 0, .int 0, .int 0, .int 0])) a (gx_ob 4 [.ref p, v1, .null, .int (-1), .int (-1), .int (-1), .int 0, .int 0, .int 0, .int 0, .int 0])).2.2 a = some (gx_ob 4 [.ref p, v1, .null, .int (-1), .int (-1), .int (-1), .int 0, .int 0, .int 0, .int 0, .int 0]) := gx_set_at _ _ _
  refine gx_aload_n dX4_init_24 rfl ?_
  refine gx_iload_n dX4_init_25 rfl ?_
  refine gx_putF dX4_init_26 gf_X4_25 rfl (fun r hr => by cases hr; rfl) hA (by simp) rfl rfl ?_
  show gx_Ev _ _ _ _ _ [] (gx_set (gx_set (gx_set (gx_set (gx_set h a (gx_ob 4 [v0, v1, .null, .int (-1), v4, v5, .int 0, .int 0, .int 0, .int 0, .int 0])) a (gx_ob 4 [v0, v1, .null, .int (-1), .int (-1), v5, .int 0, .int 0, .int 0, .int 0, .int 0])) a (gx_ob 4 [v0, v1, .null, .int (-1), .int (-1), .int (-1), .int 0, .int 0, .int 0, .int 0, .int 0])) a (gx_ob 4 [.ref p, v1, .null, .int (-1), .int (-1), .int (-1), .int 0, .int 0, .int 0, .int 0, .int 0])) a (gx_ob 4 [.ref p, .int g, .null, .int (-1), .int (-1), .int (-1), .int 0, .int 0, .int 0, .int 0, .int 0])) _
  have hA : (gx_set (gx_set (gx_set (gx_set (gx_set h a (gx_ob 4 [v0, v1, .null, .int (-1), v4, v5, .int 0, .int 0, .int 0, .int 0, .int 0])) a (gx_ob 4 [v0, v1, .null, .int (-1), .int (-1), v5, .int 0, .int 0, .int 0, .int 0, .int 0])) a (gx_ob 4 [v0, v1, .null, .int (-1), .int (-1), .int (-1), .int 0, .int 0, .int 0, .int 0, .int 0])) a (gx_ob 4 [.ref p, v1, .null, .int (-1), .int (-1), .int (-1), .int 0, .int 0, .int 0, .int 0, .int 0])) a (gx_ob 4 [.ref p, .int g, .null, .int (-1), .int (-1), .int (-1), .int 0, .int 0, .int 0, .int 0, .int 0])).2.2 a = some (gx_ob 4 [.ref p, .int g, .null, .int (-1), .int (-1), .int (-1), .int 0, .int 0, .int 0, .int 0, .int 0]) := gx_set_at _ _ _
  refine gx_return dX4_init_29 ?_
  exact ⟨rfl, by simp only [gx_set_set], rfl⟩
set_option maxHeartbeats 4000000 in
theorem cc_X3_init {S : gx_S} {h : gx_H} {a : Nat} {v0 v1 v2 v3 v4 v5 : Value} (m x k u v c : Int32) (hA : h.2.2 a = some (gx_ob 3 [v0, v1, v2, v3, v4, v5, .int 0, .long 0, .int 0, .int 0])) : gx_Cn S gm_X3_init 1 [.ref a, .int m, .int x, .int k, .int u, .int v, .int c] h (fun r h' => h' = gx_set h a (gx_ob 3 [.int m, .int x, .int k, .int u, .int (if k = 0 then u else v), .int c, .int 0, .long 0, .int 0, .int 0]) ∧ r = none) := by
  refine gx_Cn.of gt_X3_init (by simp [Value.category]) (Nat.le_of_ble_eq_true rfl) ?_
  show gx_Ev S gm_X3_init 1 0 [some (.ref a), some (.int m), some (.int x), some (.int k), some (.int u), some (.int v), some (.int c)] [] h _
  refine gx_aload_n dX3_init_0 rfl ?_
  refine gx_objI dX3_init_1 wm_X3_3 (Nat.le_of_ble_eq_true rfl) (by decide) ?_
  refine gx_aload_n dX3_init_4 rfl ?_
  refine gx_iload_n dX3_init_5 rfl ?_
  refine gx_putF dX3_init_6 gf_X3_9 rfl (fun r hr => by cases hr; rfl) hA (by simp) rfl rfl ?_
  show gx_Ev _ _ _ _ _ [] (gx_set h a (gx_ob 3 [.int m, v1, v2, v3, v4, v5, .int 0, .long 0, .int 0, .int 0])) _
  have hA : (gx_set h a (gx_ob 3 [.int m, v1, v2, v3, v4, v5, .int 0, .long 0, .int 0, .int 0])).2.2 a = some (gx_ob 3 [.int m, v1, v2, v3, v4, v5, .int 0, .long 0, .int 0, .int 0]) := gx_set_at _ _ _
  refine gx_aload_n dX3_init_9 rfl ?_
  refine gx_iload_n dX3_init_10 rfl ?_
  refine gx_putF dX3_init_11 gf_X3_15 rfl (fun r hr => by cases hr; rfl) hA (by simp) rfl rfl ?_
  show gx_Ev _ _ _ _ _ [] (gx_set (gx_set h a (gx_ob 3 [.int m, v1, v2, v3, v4, v5, .int 0, .long 0, .int 0, .int 0])) a (gx_ob 3 [.int m, .int x, v2, v3, v4, v5, .int 0, .long 0, .int 0, .int 0])) _
  have hA : (gx_set (gx_set h a (gx_ob 3 [.int m, v1, v2, v3, v4, v5, .int 0, .long 0, .int 0, .int 0])) a (gx_ob 3 [.int m, .int x, v2, v3, v4, v5, .int 0, .long 0, .int 0, .int 0])).2.2 a = some (gx_ob 3 [.int m, .int x, v2, v3, v4, v5, .int 0, .long 0, .int 0, .int 0]) := gx_set_at _ _ _
  refine gx_aload_n dX3_init_14 rfl ?_
  refine gx_iload_n dX3_init_15 rfl ?_
  refine gx_putF dX3_init_16 gf_X3_18 rfl (fun r hr => by cases hr; rfl) hA (by simp) rfl rfl ?_
  show gx_Ev _ _ _ _ _ [] (gx_set (gx_set (gx_set h a (gx_ob 3 [.int m, v1, v2, v3, v4, v5, .int 0, .long 0, .int 0, .int 0])) a (gx_ob 3 [.int m, .int x, v2, v3, v4, v5, .int 0, .long 0, .int 0, .int 0])) a (gx_ob 3 [.int m, .int x, .int k, v3, v4, v5, .int 0, .long 0, .int 0, .int 0])) _
  have hA : (gx_set (gx_set (gx_set h a (gx_ob 3 [.int m, v1, v2, v3, v4, v5, .int 0, .long 0, .int 0, .int 0])) a (gx_ob 3 [.int m, .int x, v2, v3, v4, v5, .int 0, .long 0, .int 0, .int 0])) a (gx_ob 3 [.int m, .int x, .int k, v3, v4, v5, .int 0, .long 0, .int 0, .int 0])).2.2 a = some (gx_ob 3 [.int m, .int x, .int k, v3, v4, v5, .int 0, .long 0, .int 0, .int 0]) := gx_set_at _ _ _
  refine gx_aload_n dX3_init_19 rfl ?_
  refine gx_iload dX3_init_20 rfl ?_
  refine gx_putF dX3_init_22 gf_X3_21 rfl (fun r hr => by cases hr; rfl) hA (by simp) rfl rfl ?_
  show gx_Ev _ _ _ _ _ [] (gx_set (gx_set (gx_set (gx_set h a (gx_ob 3 [.int m, v1, v2, v3, v4, v5, .int 0, .long 0, .int 0, .int 0])) a (gx_ob 3 [.int m, .int x, v2, v3, v4, v5, .int 0, .long 0, .int 0, .int 0])) a (gx_ob 3 [.int m, .int x, .int k, v3, v4, v5, .int 0, .long 0, .int 0, .int 0])) a (gx_ob 3 [.int m, .int x, .int k, .int u, v4, v5, .int 0, .long 0, .int 0, .int 0])) _
  have hA : (gx_set (gx_set (gx_set (gx_set h a (gx_ob 3 [.int m, v1, v2, v3, v4, v5, .int 0, .long 0, .int 0, .int 0])) a (gx_ob 3 [.int m, .int x, v2, v3, v4, v5, .int 0, .long 0, .int 0, .int 0])) a (gx_ob 3 [.int m, .int x, .int k, v3, v4, v5, .int 0, .long 0, .int 0, .int 0])) a (gx_ob 3 [.int m, .int x, .int k, .int u, v4, v5, .int 0, .long 0, .int 0, .int 0])).2.2 a = some (gx_ob 3 [.int m, .int x, .int k, .int u, v4, v5, .int 0, .long 0, .int 0, .int 0]) := gx_set_at _ _ _
  refine gx_aload_n dX3_init_25 rfl ?_
  refine gx_iload_n dX3_init_26 rfl ?_
  refine gx_if_ne dX3_init_27 (tgt := 35) (by decide) (fun hc => ?_) (fun hc => ?_)
  · refine gx_iload dX3_init_35 rfl ?_
    refine gx_putF dX3_init_37 gf_X3_24 rfl (fun r hr => by cases hr; rfl) hA (by simp) rfl rfl ?_
    show gx_Ev _ _ _ _ _ [] (gx_set (gx_set (gx_set (gx_set (gx_set h a (gx_ob 3 [.int m, v1, v2, v3, v4, v5, .int 0, .long 0, .int 0, .int 0])) a (gx_ob 3 [.int m, .int x, v2, v3, v4, v5, .int 0, .long 0, .int 0, .int 0])) a (gx_ob 3 [.int m, .int x, .int k, v3, v4, v5, .int 0, .long 0, .int 0, .int 0])) a (gx_ob 3 [.int m, .int x, .int k, .int u, v4, v5, .int 0, .long 0, .int 0, .int 0])) a (gx_ob 3 [.int m, .int x, .int k, .int u, .int v, v5, .int 0, .long 0, .int 0, .int 0])) _
    have hA : (gx_set (gx_set (gx_set (gx_set (gx_set h a (gx_ob 3 [.int m, v1, v2, v3, v4, v5, .int 0, .long 0, .int 0, .int 0])) a (gx_ob 3 [.int m, .int x, v2, v3, v4, v5, .int 0, .long 0, .int 0, .int 0])) a (gx_ob 3 [.int m, .int x, .int k, v3, v4, v5, .int 0, .long 0, .int 0, .int 0])) a (gx_ob 3 [.int m, .int x, .int k, .int u, v4, v5, .int 0, .long 0, .int 0, .int 0])) a (gx_ob 3 [.int m, .int x, .int k, .int u, .int v, v5, .int 0, .long 0, .int 0, .int 0])).2.2 a = some (gx_ob 3 [.int m, .int x, .int k, .int u, .int v, v5, .int 0, .long 0, .int 0, .int 0]) := gx_set_at _ _ _
    refine gx_aload_n dX3_init_40 rfl ?_
    refine gx_iload dX3_init_41 rfl ?_
    refine gx_putF dX3_init_43 gf_X3_27 rfl (fun r hr => by cases hr; rfl) hA (by simp) rfl rfl ?_
    show gx_Ev _ _ _ _ _ [] (gx_set (gx_set (gx_set (gx_set (gx_set (gx_set h a (gx_ob 3 [.int m, v1, v2, v3, v4, v5, .int 0, .long 0, .int 0, .int 0])) a (gx_ob 3 [.int m, .int x, v2, v3, v4, v5, .int 0, .long 0, .int 0, .int 0])) a (gx_ob 3 [.int m, .int x, .int k, v3, v4, v5, .int 0, .long 0, .int 0, .int 0])) a (gx_ob 3 [.int m, .int x, .int k, .int u, v4, v5, .int 0, .long 0, .int 0, .int 0])) a (gx_ob 3 [.int m, .int x, .int k, .int u, .int v, v5, .int 0, .long 0, .int 0, .int 0])) a (gx_ob 3 [.int m, .int x, .int k, .int u, .int v, .int c, .int 0, .long 0, .int 0, .int 0])) _
    have hA : (gx_set (gx_set (gx_set (gx_set (gx_set (gx_set h a (gx_ob 3 [.int m, v1, v2, v3, v4, v5, .int 0, .long 0, .int 0, .int 0])) a (gx_ob 3 [.int m, .int x, v2, v3, v4, v5, .int 0, .long 0, .int 0, .int 0])) a (gx_ob 3 [.int m, .int x, .int k, v3, v4, v5, .int 0, .long 0, .int 0, .int 0])) a (gx_ob 3 [.int m, .int x, .int k, .int u, v4, v5, .int 0, .long 0, .int 0, .int 0])) a (gx_ob 3 [.int m, .int x, .int k, .int u, .int v, v5, .int 0, .long 0, .int 0, .int 0])) a (gx_ob 3 [.int m, .int x, .int k, .int u, .int v, .int c, .int 0, .long 0, .int 0, .int 0])).2.2 a = some (gx_ob 3 [.int m, .int x, .int k, .int u, .int v, .int c, .int 0, .long 0, .int 0, .int 0]) := gx_set_at _ _ _
    refine gx_return dX3_init_46 ?_
    exact ⟨rfl, by simp only [gx_set_set, if_neg hc], rfl⟩
  · refine gx_iload dX3_init_30 rfl ?_
    refine gx_goto dX3_init_32 (tgt := 37) (by decide) ?_
    refine gx_putF dX3_init_37 gf_X3_24 rfl (fun r hr => by cases hr; rfl) hA (by simp) rfl rfl ?_
    show gx_Ev _ _ _ _ _ [] (gx_set (gx_set (gx_set (gx_set (gx_set h a (gx_ob 3 [.int m, v1, v2, v3, v4, v5, .int 0, .long 0, .int 0, .int 0])) a (gx_ob 3 [.int m, .int x, v2, v3, v4, v5, .int 0, .long 0, .int 0, .int 0])) a (gx_ob 3 [.int m, .int x, .int k, v3, v4, v5, .int 0, .long 0, .int 0, .int 0])) a (gx_ob 3 [.int m, .int x, .int k, .int u, v4, v5, .int 0, .long 0, .int 0, .int 0])) a (gx_ob 3 [.int m, .int x, .int k, .int u, .int u, v5, .int 0, .long 0, .int 0, .int 0])) _
    have hA : (gx_set (gx_set (gx_set (gx_set (gx_set h a (gx_ob 3 [.int m, v1, v2, v3, v4, v5, .int 0, .long 0, .int 0, .int 0])) a (gx_ob 3 [.int m, .int x, v2, v3, v4, v5, .int 0, .long 0, .int 0, .int 0])) a (gx_ob 3 [.int m, .int x, .int k, v3, v4, v5, .int 0, .long 0, .int 0, .int 0])) a (gx_ob 3 [.int m, .int x, .int k, .int u, v4, v5, .int 0, .long 0, .int 0, .int 0])) a (gx_ob 3 [.int m, .int x, .int k, .int u, .int u, v5, .int 0, .long 0, .int 0, .int 0])).2.2 a = some (gx_ob 3 [.int m, .int x, .int k, .int u, .int u, v5, .int 0, .long 0, .int 0, .int 0]) := gx_set_at _ _ _
    refine gx_aload_n dX3_init_40 rfl ?_
    refine gx_iload dX3_init_41 rfl ?_
    refine gx_putF dX3_init_43 gf_X3_27 rfl (fun r hr => by cases hr; rfl) hA (by simp) rfl rfl ?_
    show gx_Ev _ _ _ _ _ [] (gx_set (gx_set (gx_set (gx_set (gx_set (gx_set h a (gx_ob 3 [.int m, v1, v2, v3, v4, v5, .int 0, .long 0, .int 0, .int 0])) a (gx_ob 3 [.int m, .int x, v2, v3, v4, v5, .int 0, .long 0, .int 0, .int 0])) a (gx_ob 3 [.int m, .int x, .int k, v3, v4, v5, .int 0, .long 0, .int 0, .int 0])) a (gx_ob 3 [.int m, .int x, .int k, .int u, v4, v5, .int 0, .long 0, .int 0, .int 0])) a (gx_ob 3 [.int m, .int x, .int k, .int u, .int u, v5, .int 0, .long 0, .int 0, .int 0])) a (gx_ob 3 [.int m, .int x, .int k, .int u, .int u, .int c, .int 0, .long 0, .int 0, .int 0])) _
    have hA : (gx_set (gx_set (gx_set (gx_set (gx_set (gx_set h a (gx_ob 3 [.int m, v1, v2, v3, v4, v5, .int 0, .long 0, .int 0, .int 0])) a (gx_ob 3 [.int m, .int x, v2, v3, v4, v5, .int 0, .long 0, .int 0, .int 0])) a (gx_ob 3 [.int m, .int x, .int k, v3, v4, v5, .int 0, .long 0, .int 0, .int 0])) a (gx_ob 3 [.int m, .int x, .int k, .int u, v4, v5, .int 0, .long 0, .int 0, .int 0])) a (gx_ob 3 [.int m, .int x, .int k, .int u, .int u, v5, .int 0, .long 0, .int 0, .int 0])) a (gx_ob 3 [.int m, .int x, .int k, .int u, .int u, .int c, .int 0, .long 0, .int 0, .int 0])).2.2 a = some (gx_ob 3 [.int m, .int x, .int k, .int u, .int u, .int c, .int 0, .long 0, .int 0, .int 0]) := gx_set_at _ _ _
    refine gx_return dX3_init_46 ?_
    exact ⟨rfl, by simp only [gx_set_set, if_pos hc], rfl⟩
set_option maxHeartbeats 4000000 in
theorem cc_X0_init {S : gx_S} {h : gx_H} {a : Nat} (hlt : a < h.1) (hA : h.2.2 a = some (gx_ob 0 [.null, .int 0])) : gx_Cn S gm_X0_init 1 [.ref a] h (fun r h' => h' = gx_set (gx_push h 240 (gx_ar 3 240 (fun _ => none))) a (gx_ob 0 [.ref h.1, .int 0]) ∧ r = none) := by
  refine gx_Cn.of gt_X0_init (by simp [Value.category]) (Nat.le_of_ble_eq_true rfl) ?_
  show gx_Ev S gm_X0_init 1 0 [some (.ref a)] [] h _
  refine gx_aload_n dX0_init_0 rfl ?_
  refine gx_objI dX0_init_1 wm_X0_3 (Nat.le_of_ble_eq_true rfl) (by decide) ?_
  refine gx_aload_n dX0_init_4 rfl ?_
  refine gx_sipush dX0_init_5 (v := 240) (by decide) ?_
  refine gx_anew dX0_init_8 wc_X0_9 (t := 3) ⟨rfl, by decide⟩ (fun Z U k => k.2.1.2.1) (by decide) (N := 240) (by decide) (by decide) ?_
  have hA : (gx_push h 240 (gx_ar 3 240 (fun _ => none))).2.2 a = some (gx_ob 0 [.null, .int 0]) := by rw [gx_push_ne _ _ _ (Nat.ne_of_lt hlt)]; exact hA
  refine gx_putF dX0_init_11 gf_X0_11 rfl (fun r hr => by cases hr; rfl) hA (by simp) rfl rfl ?_
  show gx_Ev _ _ _ _ _ [] (gx_set (gx_push h 240 (gx_ar 3 240 (fun _ => none))) a (gx_ob 0 [.ref h.1, .int 0])) _
  have hA : (gx_set (gx_push h 240 (gx_ar 3 240 (fun _ => none))) a (gx_ob 0 [.ref h.1, .int 0])).2.2 a = some (gx_ob 0 [.ref h.1, .int 0]) := gx_set_at _ _ _
  refine gx_return dX0_init_14 ?_
  exact ⟨rfl, by simp only [gx_set_set], rfl⟩
