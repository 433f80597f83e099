/-! the reference's small methods -/
def gv_b (n f v : Nat) : Prop := match f with
  | 104 => v ≤ 40
  | 105 => v < 4
  | 107 => v < 16
  | 108 => v < 16
  | 123 => v ≤ 40
  | 124 => v < 40
  | 127 => v < 40
  | 128 => v ≤ n
  | 129 => v < n
  | _ => True
def gv_V (σ : gs_T) : Prop := (2 ≤ σ.1 100 0 0 ∧ σ.1 100 0 0 ≤ 4) ∧ ∀ f i j, gv_b (σ.1 100 0 0) f (σ.1 f i j)
theorem gv_n2 {σ : gs_T} (V : gv_V σ) : 2 ≤ σ.1 100 0 0 := V.1.1
theorem gv_n4 {σ : gs_T} (V : gv_V σ) : σ.1 100 0 0 ≤ 4 := V.1.2
theorem gv_cnt {σ : gs_T} (V : gv_V σ) : σ.1 104 0 0 ≤ 40 := V.2 104 0 0
theorem gv_cl {σ : gs_T} (V : gv_V σ) (o : Nat) : σ.1 105 o 0 < 4 := V.2 105 o 0
theorem gv_a {σ : gs_T} (V : gv_V σ) (o : Nat) : σ.1 107 o 0 < 16 := V.2 107 o 0
theorem gv_bk {σ : gs_T} (V : gv_V σ) (o : Nat) : σ.1 108 o 0 < 16 := V.2 108 o 0
theorem gv_tc {σ : gs_T} (V : gv_V σ) (g : Nat) : σ.1 123 g 0 ≤ 40 := V.2 123 g 0
theorem gv_tr {σ : gs_T} (V : gv_V σ) (j : Nat) : σ.1 124 j 0 < 40 := V.2 124 j 0
theorem gv_oo {σ : gs_T} (V : gv_V σ) (i : Nat) : σ.1 127 i 0 < 40 := V.2 127 i 0
theorem gv_fr {σ : gs_T} (V : gv_V σ) (i : Nat) : σ.1 128 i 0 ≤ σ.1 100 0 0 := V.2 128 i 0
theorem gv_to {σ : gs_T} (V : gv_V σ) (i : Nat) : σ.1 129 i 0 < σ.1 100 0 0 := V.2 129 i 0
theorem gv_i {σ : gs_T} {f i j : Nat} {v : Int32} (V : gv_V σ) : gv_V (gs_i σ f i j v) := V
theorem gv_n {σ : gs_T} {f i j v : Nat} (V : gv_V σ) (hf : f ≠ 100) (hv : gv_b (σ.1 100 0 0) f v) : gv_V (gs_n σ f i j v) := by
  have e : (gs_n σ f i j v).1 100 0 0 = σ.1 100 0 0 := congrFun (congrFun (gs_u_ne (fun e => hf e.symm)) 0) 0
  refine ⟨by rw [e]; exact V.1, fun f' i' j' => ?_⟩
  rw [e]
  by_cases h : f' = f ∧ i' = i ∧ j' = j
  · obtain ⟨rfl, rfl, rfl⟩ := h
    have e2 : (gs_n σ f' i' j' v).1 f' i' j' = v := by simp [gs_n, gs_u]
    rw [e2]; exact hv
  · have e2 : (gs_n σ f i j v).1 f' i' j' = σ.1 f' i' j' := by simp only [gs_n, gs_u, if_neg h]
    rw [e2]; exact V.2 f' i' j'
abbrev gv_of (σ : gs_T) (g o : Nat) : Prop := σ.1 107 o 0 % σ.1 100 0 0 = g ∨ (¬ σ.2.1 106 o 0 = 0 ∧ σ.1 108 o 0 % σ.1 100 0 0 = g)
set_option maxHeartbeats 4000000 in
theorem cc_X6_isIn {S : gx_S} {h : gx_H} (x y : Int32) : gx_Cn S gm_X6_isIn 1 [.int x, .int y] h (fun r h' => h' = h ∧ r = some (.int (gs_bi (0 ≤ x ∧ x < y)))) := by
  refine gx_Cn.of gt_X6_isIn (by simp [Value.category]) (Nat.le_of_ble_eq_true rfl) ?_
  show gx_Ev S gm_X6_isIn 1 0 [some (.int x), some (.int y)] [] h _
  refine gx_iload_n dX6_isIn_0 rfl ?_
  refine gx_if_lt dX6_isIn_1 (tgt := 13) (by decide) (fun hc1 => ?_) (fun hc1 => ?_)
  · refine gx_iconst dX6_isIn_13 (v := 0) (by decide) ?_
    refine gx_ireturn dX6_isIn_14 ?_
    exact ⟨⟨_, rfl, rfl⟩, rfl, congrArg (fun z => some (Value.int z)) (gs_bf (fun z => Int32.not_lt.mpr z.1 hc1))⟩
  · refine gx_iload_n dX6_isIn_4 rfl ?_
    refine gx_iload_n dX6_isIn_5 rfl ?_
    refine gx_icmp_ge dX6_isIn_6 (tgt := 13) (by decide) (fun hc2 => ?_) (fun hc2 => ?_)
    · refine gx_iconst dX6_isIn_13 (v := 0) (by decide) ?_
      refine gx_ireturn dX6_isIn_14 ?_
      exact ⟨⟨_, rfl, rfl⟩, rfl, congrArg (fun z => some (Value.int z)) (gs_bf (fun z => Int32.not_lt.mpr hc2 z.2))⟩
    · refine gx_iconst dX6_isIn_9 (v := 1) (by decide) ?_
      refine gx_goto dX6_isIn_10 (tgt := 14) (by decide) ?_
      refine gx_ireturn dX6_isIn_14 ?_
      exact ⟨⟨_, rfl, rfl⟩, rfl, congrArg (fun z => some (Value.int z)) (gs_bt ⟨gs_nlt hc1, gs_nle hc2⟩)⟩
set_option maxHeartbeats 4000000 in
theorem cc_X6_at {S : gx_S} {h : gx_H} (g o : Nat) : gx_Cn S gm_X6_at 1 [.int (nI g), .int (nI o)] h (fun r h' => h' = h ∧ r = some (.int (nI (40 * g + o)))) := by
  refine gx_Cn.of gt_X6_at (by simp [Value.category]) (Nat.le_of_ble_eq_true rfl) ?_
  show gx_Ev S gm_X6_at 1 0 [some (.int (nI g)), some (.int (nI o))] [] h _
  refine gx_bipush dX6_at_0 (v := 40) (by decide) ?_
  refine gx_iload_n dX6_at_2 rfl ?_
  refine gx_imul dX6_at_3 ?_
  rw [show (40 * (nI g) : Int32) = nI (40 * g) from pk_mul _ _]
  refine gx_iload_n dX6_at_4 rfl ?_
  refine gx_iadd dX6_at_5 ?_
  rw [show ((nI (40 * g)) + (nI o) : Int32) = nI (40 * g + o) from nI_add _ _]
  refine gx_ireturn dX6_at_6 ?_
  exact ⟨⟨_, rfl, rfl⟩, rfl, rfl⟩
theorem cc_X6_atE {S : gx_S} {h : gx_H} {x y : Int32} {g o : Nat} (hx : x = nI g) (hy : y = nI o) : gx_Cn S gm_X6_at 1 [.int x, .int y] h (fun r h' => h' = h ∧ r = some (.int (nI (40 * g + o)))) := by
  subst hx; subst hy; exact cc_X6_at g o
set_option maxHeartbeats 4000000 in
theorem cc_X6_of {S : gx_S} {h : gx_H} (g o q : Nat) : gx_Cn S gm_X6_of 2 [.int (nI g), .int (nI o), .int (nI q)] h (fun r h' => h' = h ∧ r = some (.int (nI (4 * (40 * g + o) + q)))) := by
  refine gx_Cn.of gt_X6_of (by simp [Value.category]) (Nat.le_of_ble_eq_true rfl) ?_
  show gx_Ev S gm_X6_of 2 0 [some (.int (nI g)), some (.int (nI o)), some (.int (nI q))] [] h _
  refine gx_iconst dX6_of_0 (v := 4) (by decide) ?_
  refine gx_iload_n dX6_of_1 rfl ?_
  refine gx_iload_n dX6_of_2 rfl ?_
  refine gx_invS dX6_of_3 wm_X6_105 gt_X6_at ws_X6_at (As := [.int (nI g), .int (nI o)]) (rest := [.int 4]) rfl rfl (Nat.le_of_ble_eq_true rfl) (by decide) (cc_X6_atE (g := g) (o := o) (rfl) (rfl)) (fun r1 h q1 => ?_)
  obtain ⟨rfl, rfl⟩ := q1
  show gx_Ev _ _ _ _ _ [.int (nI (40 * g + o)), .int 4] _ _
  refine gx_imul dX6_of_6 ?_
  rw [show (4 * (nI (40 * g + o)) : Int32) = nI (4 * (40 * g + o)) from pk_mul _ _]
  refine gx_iload_n dX6_of_7 rfl ?_
  refine gx_iadd dX6_of_8 ?_
  rw [show ((nI (4 * (40 * g + o))) + (nI q) : Int32) = nI (4 * (40 * g + o) + q) from nI_add _ _]
  refine gx_ireturn dX6_of_9 ?_
  exact ⟨⟨_, rfl, rfl⟩, rfl, rfl⟩
theorem cc_X6_ofE {S : gx_S} {h : gx_H} {x y z : Int32} {g o q : Nat} (hx : x = nI g) (hy : y = nI o) (hz : z = nI q) : gx_Cn S gm_X6_of 2 [.int x, .int y, .int z] h (fun r h' => h' = h ∧ r = some (.int (nI (4 * (40 * g + o) + q)))) := by
  subst hx; subst hy; subst hz; exact cc_X6_of g o q
set_option maxHeartbeats 4000000 in
theorem cc_X6_isOf {S : gx_S} {h : gx_H} {σ : gs_T} {A : gs_A} (R : gs_R h σ A) (hm : σ.1 31 0 0 = 1) (V : gv_V σ) {g o : Nat} (hg : g < 4) (ho : o < 40) : gx_Cn S gm_X6_isOf 1 [.ref (A 6 0 0), .int (nI g), .int (nI o)] h (fun r h' => h' = h ∧ r = some (.int (gs_bi (gv_of σ g o)))) := by
  refine gx_Cn.of gt_X6_isOf (by simp [Value.category]) (Nat.le_of_ble_eq_true rfl) ?_
  show gx_Ev S gm_X6_isOf 1 0 [some (.ref (A 6 0 0)), some (.int (nI g)), some (.int (nI o))] [] h _
  refine gx_aload_n dX6_isOf_0 rfl ?_
  refine gx_get dX6_isOf_1 gf_X6_26 (gs_g6 R hm) (v := .ref (A 27 0 0)) (rfl) ?_
  refine gx_iload_n dX6_isOf_4 rfl ?_
  refine gq_27 dX6_isOf_5 R hm (q := o) (rfl) (ho) (v := nI (σ.1 107 o 0)) (rfl) ?_
  refine gx_aload_n dX6_isOf_6 rfl ?_
  refine gx_get dX6_isOf_7 gf_X6_101 (gs_g6 R hm) (v := .int (nI (σ.1 100 0 0))) (rfl) ?_
  refine gx_irem dX6_isOf_10 (nI_ne0 (by have := gv_n2 V; omega) (by have := gv_n4 V; omega)) ?_
  rw [show ((nI (σ.1 107 o 0)) - (nI (σ.1 107 o 0)) / (nI (σ.1 100 0 0)) * (nI (σ.1 100 0 0)) : Int32) = nI (σ.1 107 o 0 % σ.1 100 0 0) from pk_rem (by have := gv_a V o; have := gv_bk V o; omega) (by have := gv_n2 V; omega) (by have := gv_n4 V; omega)]
  refine gx_iload_n dX6_isOf_11 rfl ?_
  refine gx_icmp_eq dX6_isOf_12 (tgt := 39) (by decide) (fun hc1 => ?_) (fun hc1 => ?_)
  · refine gx_iconst dX6_isOf_39 (v := 1) (by decide) ?_
    refine gx_goto dX6_isOf_40 (tgt := 44) (by decide) ?_
    refine gx_ireturn dX6_isOf_44 ?_
    exact ⟨⟨_, rfl, rfl⟩, rfl, congrArg (fun z => some (Value.int z)) (gs_bt (Or.inl ((nI_eq (by have := gv_n2 V; have := gv_n4 V; have := Nat.mod_lt (σ.1 107 o 0) (show 0 < σ.1 100 0 0 by omega); omega) (by omega)).mp hc1)))⟩
  · refine gx_aload_n dX6_isOf_15 rfl ?_
    refine gx_get dX6_isOf_16 gf_X6_23 (gs_g6 R hm) (v := .ref (A 26 0 0)) (rfl) ?_
    refine gx_iload_n dX6_isOf_19 rfl ?_
    refine gq_26 dX6_isOf_20 R hm (q := o) (rfl) (ho) (v := σ.2.1 106 o 0) (rfl) ?_
    refine gx_if_eq dX6_isOf_21 (tgt := 43) (by decide) (fun hc2 => ?_) (fun hc2 => ?_)
    · refine gx_iconst dX6_isOf_43 (v := 0) (by decide) ?_
      refine gx_ireturn dX6_isOf_44 ?_
      refine ⟨⟨_, rfl, rfl⟩, rfl, congrArg (fun z => some (Value.int z)) (gs_bf (fun z => ?_))⟩
      rcases z with z | z
      · exact hc1 (congrArg nI z)
      · exact z.1 hc2
    · refine gx_aload_n dX6_isOf_24 rfl ?_
      refine gx_get dX6_isOf_25 gf_X6_29 (gs_g6 R hm) (v := .ref (A 28 0 0)) (rfl) ?_
      refine gx_iload_n dX6_isOf_28 rfl ?_
      refine gq_28 dX6_isOf_29 R hm (q := o) (rfl) (ho) (v := nI (σ.1 108 o 0)) (rfl) ?_
      refine gx_aload_n dX6_isOf_30 rfl ?_
      refine gx_get dX6_isOf_31 gf_X6_101 (gs_g6 R hm) (v := .int (nI (σ.1 100 0 0))) (rfl) ?_
      refine gx_irem dX6_isOf_34 (nI_ne0 (by have := gv_n2 V; omega) (by have := gv_n4 V; omega)) ?_
      rw [show ((nI (σ.1 108 o 0)) - (nI (σ.1 108 o 0)) / (nI (σ.1 100 0 0)) * (nI (σ.1 100 0 0)) : Int32) = nI (σ.1 108 o 0 % σ.1 100 0 0) from pk_rem (by have := gv_a V o; have := gv_bk V o; omega) (by have := gv_n2 V; omega) (by have := gv_n4 V; omega)]
      refine gx_iload_n dX6_isOf_35 rfl ?_
      refine gx_icmp_ne dX6_isOf_36 (tgt := 43) (by decide) (fun hc3 => ?_) (fun hc3 => ?_)
      · refine gx_iconst dX6_isOf_43 (v := 0) (by decide) ?_
        refine gx_ireturn dX6_isOf_44 ?_
        refine ⟨⟨_, rfl, rfl⟩, rfl, congrArg (fun z => some (Value.int z)) (gs_bf (fun z => ?_))⟩
        rcases z with z | z
        · exact hc1 (congrArg nI z)
        · exact hc3 (congrArg nI z.2)
      · refine gx_iconst dX6_isOf_39 (v := 1) (by decide) ?_
        refine gx_goto dX6_isOf_40 (tgt := 44) (by decide) ?_
        refine gx_ireturn dX6_isOf_44 ?_
        exact ⟨⟨_, rfl, rfl⟩, rfl, congrArg (fun z => some (Value.int z)) (gs_bt (Or.inr ⟨hc2, (nI_eq (by have := gv_n2 V; have := gv_n4 V; have := Nat.mod_lt (σ.1 108 o 0) (show 0 < σ.1 100 0 0 by omega); omega) (by omega)).mp hc3⟩))⟩
