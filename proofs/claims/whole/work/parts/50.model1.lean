/-! the reference's small methods -/
def gv_V (σ : gs_T) : Prop := (2 ≤ σ.1 100 0 0 ∧ σ.1 100 0 0 ≤ 4 ∧ σ.1 104 0 0 ≤ 40 ∧ σ.1 125 0 0 ≤ 240) ∧ (∀ o, σ.1 107 o 0 < 16) ∧ (∀ o, σ.1 108 o 0 < 16) ∧ (∀ o, σ.1 105 o 0 < 4) ∧ (∀ g, σ.1 123 g 0 ≤ 40) ∧ (∀ j, σ.1 124 j 0 < 40) ∧ (∀ i, σ.1 127 i 0 < 40) ∧ (∀ i, σ.1 129 i 0 < σ.1 100 0 0) ∧ (∀ i, σ.1 128 i 0 ≤ σ.1 100 0 0)
def gv_of (σ : gs_T) (g o : Nat) : Prop := σ.1 107 o 0 % σ.1 100 0 0 = g ∨ (¬ σ.2.1 106 o 0 = 0 ∧ σ.1 108 o 0 % σ.1 100 0 0 = g)
theorem gv_dec (σ : gs_T) (g o : Nat) : gv_of σ g o ∨ ¬ gv_of σ g o := Classical.em _
noncomputable def gs_pb (p : Prop) : Int32 := @gs_bi p (Classical.propDecidable p)
theorem gs_p0 {p : Prop} (h : gs_pb p = 0) : ¬ p := @gs_b0 p (Classical.propDecidable p) h
theorem gs_p1 {p : Prop} (h : ¬ gs_pb p = 0) : p := @gs_b1 p (Classical.propDecidable p) h
theorem gs_pt {p : Prop} (hp : p) : 1 = gs_pb p := @gs_bt p (Classical.propDecidable p) hp
theorem gs_pf {p : Prop} (hp : ¬ p) : 0 = gs_pb p := @gs_bf p (Classical.propDecidable p) hp
set_option maxHeartbeats 4000000 in
theorem cc_X6_isIn {S : gx_S} {h : gx_H} (x y : Int32) : gx_Cn S gm_X6_isIn 1 [.int x, .int y] h (fun r h' => h' = h ∧ r = some (.int (gs_bi (0 ≤ x ∧ x < y)))) := by
  refine gx_Cn.of gt_X6_isIn (by simp [Value.category]) (Nat.le_of_ble_eq_true rfl) ?_
  show gx_Ev S gm_X6_isIn 1 0 [some (.int x), some (.int y)] [] h _
  refine gx_iload_n dX6_isIn_0 rfl ?_
  refine gx_if_lt dX6_isIn_1 (tgt := 13) (by decide) (fun hc1 => ?_) (fun hc1 => ?_)
  · refine gx_iconst dX6_isIn_13 (v := 0) (by decide) ?_
    refine gx_ireturn dX6_isIn_14 ?_
    exact ⟨⟨_, rfl, rfl⟩, rfl, congrArg (fun z => some (Value.int z)) (gs_bf (fun z => Int32.not_lt.mpr z.1 hc1))⟩
  · refine gx_iload_n dX6_isIn_4 rfl ?_
    refine gx_iload_n dX6_isIn_5 rfl ?_
    refine gx_icmp_ge dX6_isIn_6 (tgt := 13) (by decide) (fun hc2 => ?_) (fun hc2 => ?_)
    · refine gx_iconst dX6_isIn_13 (v := 0) (by decide) ?_
      refine gx_ireturn dX6_isIn_14 ?_
      exact ⟨⟨_, rfl, rfl⟩, rfl, congrArg (fun z => some (Value.int z)) (gs_bf (fun z => Int32.not_lt.mpr hc2 z.2))⟩
    · refine gx_iconst dX6_isIn_9 (v := 1) (by decide) ?_
      refine gx_goto dX6_isIn_10 (tgt := 14) (by decide) ?_
      refine gx_ireturn dX6_isIn_14 ?_
      exact ⟨⟨_, rfl, rfl⟩, rfl, congrArg (fun z => some (Value.int z)) (gs_bt ⟨gs_nlt hc1, gs_nle hc2⟩)⟩
set_option maxHeartbeats 4000000 in
theorem cc_X6_at {S : gx_S} {h : gx_H} (g o : Nat) : gx_Cn S gm_X6_at 1 [.int (nI g), .int (nI o)] h (fun r h' => h' = h ∧ r = some (.int (nI (40 * g + o)))) := by
  refine gx_Cn.of gt_X6_at (by simp [Value.category]) (Nat.le_of_ble_eq_true rfl) ?_
  show gx_Ev S gm_X6_at 1 0 [some (.int (nI g)), some (.int (nI o))] [] h _
  refine gx_bipush dX6_at_0 (v := 40) (by decide) ?_
  refine gx_iload_n dX6_at_2 rfl ?_
  refine gx_imul dX6_at_3 ?_
  rw [show (40 * (nI g) : Int32) = nI (40 * g) from pk_mul _ _]
  refine gx_iload_n dX6_at_4 rfl ?_
  refine gx_iadd dX6_at_5 ?_
  rw [show ((nI (40 * g)) + (nI o) : Int32) = nI (40 * g + o) from nI_add _ _]
  refine gx_ireturn dX6_at_6 ?_
  exact ⟨⟨_, rfl, rfl⟩, rfl, rfl⟩
theorem cc_X6_atE {S : gx_S} {h : gx_H} {x y : Int32} {g o : Nat} (hx : x = nI g) (hy : y = nI o) : gx_Cn S gm_X6_at 1 [.int x, .int y] h (fun r h' => h' = h ∧ r = some (.int (nI (40 * g + o)))) := by
  subst hx; subst hy; exact cc_X6_at g o
set_option maxHeartbeats 4000000 in
theorem cc_X6_of {S : gx_S} {h : gx_H} (g o q : Nat) : gx_Cn S gm_X6_of 2 [.int (nI g), .int (nI o), .int (nI q)] h (fun r h' => h' = h ∧ r = some (.int (nI (4 * (40 * g + o) + q)))) := by
  refine gx_Cn.of gt_X6_of (by simp [Value.category]) (Nat.le_of_ble_eq_true rfl) ?_
  show gx_Ev S gm_X6_of 2 0 [some (.int (nI g)), some (.int (nI o)), some (.int (nI q))] [] h _
  refine gx_iconst dX6_of_0 (v := 4) (by decide) ?_
  refine gx_iload_n dX6_of_1 rfl ?_
  refine gx_iload_n dX6_of_2 rfl ?_
  refine gx_invS dX6_of_3 wm_X6_105 gt_X6_at ws_X6_at (As := [.int (nI g), .int (nI o)]) (rest := [.int 4]) rfl rfl (Nat.le_of_ble_eq_true rfl) (by decide) (cc_X6_atE (g := g) (o := o) (rfl) (rfl)) (fun r1 h1 q1 => ?_)
  obtain ⟨rfl, rfl⟩ := q1
  show gx_Ev _ _ _ _ _ [.int (nI (40 * g + o)), .int 4] _ _
  refine gx_imul dX6_of_6 ?_
  rw [show (4 * (nI (40 * g + o)) : Int32) = nI (4 * (40 * g + o)) from pk_mul _ _]
  refine gx_iload_n dX6_of_7 rfl ?_
  refine gx_iadd dX6_of_8 ?_
  rw [show ((nI (4 * (40 * g + o))) + (nI q) : Int32) = nI (4 * (40 * g + o) + q) from nI_add _ _]
  refine gx_ireturn dX6_of_9 ?_
  exact ⟨⟨_, rfl, rfl⟩, rfl, rfl⟩
theorem cc_X6_ofE {S : gx_S} {h : gx_H} {x y z : Int32} {g o q : Nat} (hx : x = nI g) (hy : y = nI o) (hz : z = nI q) : gx_Cn S gm_X6_of 2 [.int x, .int y, .int z] h (fun r h' => h' = h ∧ r = some (.int (nI (4 * (40 * g + o) + q)))) := by
  subst hx; subst hy; subst hz; exact cc_X6_of g o q
set_option maxHeartbeats 4000000 in
theorem cc_X6_isOf {S : gx_S} {h : gx_H} {σ : gs_T} {A : gs_A} (R : gs_R h σ A) (hm : σ.1 31 0 0 = 1) (V : gv_V σ) {g o : Nat} (hg : g < 4) (ho : o < 40) : gx_Cn S gm_X6_isOf 1 [.ref (A 6 0 0), .int (nI g), .int (nI o)] h (fun r h' => h' = h ∧ r = some (.int (gs_pb (gv_of σ g o)))) := by
  refine gx_Cn.of gt_X6_isOf (by simp [Value.category]) (Nat.le_of_ble_eq_true rfl) ?_
  show gx_Ev S gm_X6_isOf 1 0 [some (.ref (A 6 0 0)), some (.int (nI g)), some (.int (nI o))] [] h _
  refine gx_aload_n dX6_isOf_0 rfl ?_
  refine gx_get dX6_isOf_1 gf_X6_26 (gs_g6 R hm) (v := .ref (A 27 0 0)) rfl ?_
  refine gx_iload_n dX6_isOf_4 rfl ?_
  refine gq_27 dX6_isOf_5 R hm (q := o) (rfl) (ho) (v := nI (σ.1 107 o 0)) rfl ?_
  refine gx_aload_n dX6_isOf_6 rfl ?_
  refine gx_get dX6_isOf_7 gf_X6_101 (gs_g6 R hm) (v := .int (nI (σ.1 100 0 0))) rfl ?_
  refine gx_irem dX6_isOf_10 (nI_ne0 (by have := V.1.1; omega) (by have := V.1.2.1; omega)) ?_
  rw [show ((nI (σ.1 107 o 0)) - (nI (σ.1 107 o 0)) / (nI (σ.1 100 0 0)) * (nI (σ.1 100 0 0)) : Int32) = nI (σ.1 107 o 0 % σ.1 100 0 0) from pk_rem (by have := V.2.1 o; have := V.2.2.1 o; omega) (by have := V.1.1; omega) (by have := V.1.2.1; omega)]
  refine gx_iload_n dX6_isOf_11 rfl ?_
  refine gx_icmp_eq dX6_isOf_12 (tgt := 39) (by decide) (fun hc1 => ?_) (fun hc1 => ?_)
  · refine gx_iconst dX6_isOf_39 (v := 1) (by decide) ?_
    refine gx_goto dX6_isOf_40 (tgt := 44) (by decide) ?_
    refine gx_ireturn dX6_isOf_44 ?_
    exact ⟨⟨_, rfl, rfl⟩, rfl, congrArg (fun z => some (Value.int z)) (gs_pt (Or.inl ((nI_eq (by have := V.1.1; have := V.1.2.1; have := Nat.mod_lt (σ.1 107 o 0) (show 0 < σ.1 100 0 0 by omega); omega) (by omega)).mp hc1)))⟩
  · refine gx_aload_n dX6_isOf_15 rfl ?_
    refine gx_get dX6_isOf_16 gf_X6_23 (gs_g6 R hm) (v := .ref (A 26 0 0)) rfl ?_
    refine gx_iload_n dX6_isOf_19 rfl ?_
    refine gq_26 dX6_isOf_20 R hm (q := o) (rfl) (ho) (v := σ.2.1 106 o 0) rfl ?_
    refine gx_if_eq dX6_isOf_21 (tgt := 43) (by decide) (fun hc2 => ?_) (fun hc2 => ?_)
    · refine gx_iconst dX6_isOf_43 (v := 0) (by decide) ?_
      refine gx_ireturn dX6_isOf_44 ?_
      refine ⟨⟨_, rfl, rfl⟩, rfl, congrArg (fun z => some (Value.int z)) (gs_pf (fun z => ?_))⟩
      rcases z with z | z
      · exact hc1 (congrArg nI z)
      · exact z.1 hc2
    · refine gx_aload_n dX6_isOf_24 rfl ?_
      refine gx_get dX6_isOf_25 gf_X6_29 (gs_g6 R hm) (v := .ref (A 28 0 0)) rfl ?_
      refine gx_iload_n dX6_isOf_28 rfl ?_
      refine gq_28 dX6_isOf_29 R hm (q := o) (rfl) (ho) (v := nI (σ.1 108 o 0)) rfl ?_
      refine gx_aload_n dX6_isOf_30 rfl ?_
      refine gx_get dX6_isOf_31 gf_X6_101 (gs_g6 R hm) (v := .int (nI (σ.1 100 0 0))) rfl ?_
      refine gx_irem dX6_isOf_34 (nI_ne0 (by have := V.1.1; omega) (by have := V.1.2.1; omega)) ?_
      rw [show ((nI (σ.1 108 o 0)) - (nI (σ.1 108 o 0)) / (nI (σ.1 100 0 0)) * (nI (σ.1 100 0 0)) : Int32) = nI (σ.1 108 o 0 % σ.1 100 0 0) from pk_rem (by have := V.2.1 o; have := V.2.2.1 o; omega) (by have := V.1.1; omega) (by have := V.1.2.1; omega)]
      refine gx_iload_n dX6_isOf_35 rfl ?_
      refine gx_icmp_ne dX6_isOf_36 (tgt := 43) (by decide) (fun hc3 => ?_) (fun hc3 => ?_)
      · refine gx_iconst dX6_isOf_43 (v := 0) (by decide) ?_
        refine gx_ireturn dX6_isOf_44 ?_
        refine ⟨⟨_, rfl, rfl⟩, rfl, congrArg (fun z => some (Value.int z)) (gs_pf (fun z => ?_))⟩
        rcases z with z | z
        · exact hc1 (congrArg nI z)
        · exact hc3 (congrArg nI z.2)
      · refine gx_iconst dX6_isOf_39 (v := 1) (by decide) ?_
        refine gx_goto dX6_isOf_40 (tgt := 44) (by decide) ?_
        refine gx_ireturn dX6_isOf_44 ?_
        exact ⟨⟨_, rfl, rfl⟩, rfl, congrArg (fun z => some (Value.int z)) (gs_pt (Or.inr ⟨hc2, (nI_eq (by have := V.1.1; have := V.1.2.1; have := Nat.mod_lt (σ.1 108 o 0) (show 0 < σ.1 100 0 0 by omega); omega) (by omega)).mp hc3⟩))⟩
