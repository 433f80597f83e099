/-! the class: its small methods -/
set_option maxHeartbeats 4000000 in
theorem cc_X5_isClient {S : gx_S} {h : gx_H}  (x : Int32) : gx_Cn S gm_X5_isClient 1 [.int x] h (fun r h' => h' = h ∧ r = some (.int (gs_bi (0 ≤ x ∧ x < 4)))) := by
  refine gx_Cn.of gt_X5_isClient (by simp [Value.category]) (Nat.le_of_ble_eq_true rfl) ?_
  show gx_Ev S gm_X5_isClient 1 0 [some (.int x)] [] h _
  refine gx_iload_n dX5_isClient_0 rfl ?_
  refine gx_if_lt dX5_isClient_1 (tgt := 13) (by decide) (fun hc1 => ?_) (fun hc1 => ?_)
  · refine gx_iconst dX5_isClient_13 (v := 0) (by decide) ?_
    refine gx_ireturn dX5_isClient_14 ?_
    exact ⟨⟨_, rfl, rfl⟩, rfl, congrArg (fun z => some (Value.int z)) (gs_bf (fun z => Int32.not_lt.mpr z.1 hc1))⟩
  · refine gx_iload_n dX5_isClient_4 rfl ?_
    refine gx_iconst dX5_isClient_5 (v := 4) (by decide) ?_
    refine gx_icmp_ge dX5_isClient_6 (tgt := 13) (by decide) (fun hc2 => ?_) (fun hc2 => ?_)
    · refine gx_iconst dX5_isClient_13 (v := 0) (by decide) ?_
      refine gx_ireturn dX5_isClient_14 ?_
      exact ⟨⟨_, rfl, rfl⟩, rfl, congrArg (fun z => some (Value.int z)) (gs_bf (fun z => Int32.not_lt.mpr hc2 z.2))⟩
    · refine gx_iconst dX5_isClient_9 (v := 1) (by decide) ?_
      refine gx_goto dX5_isClient_10 (tgt := 14) (by decide) ?_
      refine gx_ireturn dX5_isClient_14 ?_
      exact ⟨⟨_, rfl, rfl⟩, rfl, congrArg (fun z => some (Value.int z)) (gs_bt (⟨gs_nlt hc1, gs_nle hc2⟩))⟩
set_option maxHeartbeats 4000000 in
theorem cc_X5_isKey {S : gx_S} {h : gx_H}  (x : Int32) : gx_Cn S gm_X5_isKey 1 [.int x] h (fun r h' => h' = h ∧ r = some (.int (gs_bi (0 ≤ x ∧ x < 16)))) := by
  refine gx_Cn.of gt_X5_isKey (by simp [Value.category]) (Nat.le_of_ble_eq_true rfl) ?_
  show gx_Ev S gm_X5_isKey 1 0 [some (.int x)] [] h _
  refine gx_iload_n dX5_isKey_0 rfl ?_
  refine gx_if_lt dX5_isKey_1 (tgt := 14) (by decide) (fun hc1 => ?_) (fun hc1 => ?_)
  · refine gx_iconst dX5_isKey_14 (v := 0) (by decide) ?_
    refine gx_ireturn dX5_isKey_15 ?_
    exact ⟨⟨_, rfl, rfl⟩, rfl, congrArg (fun z => some (Value.int z)) (gs_bf (fun z => Int32.not_lt.mpr z.1 hc1))⟩
  · refine gx_iload_n dX5_isKey_4 rfl ?_
    refine gx_bipush dX5_isKey_5 (v := 16) (by decide) ?_
    refine gx_icmp_ge dX5_isKey_7 (tgt := 14) (by decide) (fun hc2 => ?_) (fun hc2 => ?_)
    · refine gx_iconst dX5_isKey_14 (v := 0) (by decide) ?_
      refine gx_ireturn dX5_isKey_15 ?_
      exact ⟨⟨_, rfl, rfl⟩, rfl, congrArg (fun z => some (Value.int z)) (gs_bf (fun z => Int32.not_lt.mpr hc2 z.2))⟩
    · refine gx_iconst dX5_isKey_10 (v := 1) (by decide) ?_
      refine gx_goto dX5_isKey_11 (tgt := 15) (by decide) ?_
      refine gx_ireturn dX5_isKey_15 ?_
      exact ⟨⟨_, rfl, rfl⟩, rfl, congrArg (fun z => some (Value.int z)) (gs_bt (⟨gs_nlt hc1, gs_nle hc2⟩))⟩
set_option maxHeartbeats 4000000 in
theorem cc_X5_isGroup {S : gx_S} {h : gx_H} {σ : gs_T} {A : gs_A} (R : gs_R h σ A) (x : Int32) : gx_Cn S gm_X5_isGroup 1 [.ref (A 5 0 0), .int x] h (fun r h' => h' = h ∧ r = some (.int (gs_bi (0 ≤ x ∧ x < nI (σ.1 0 0 0))))) := by
  refine gx_Cn.of gt_X5_isGroup (by simp [Value.category]) (Nat.le_of_ble_eq_true rfl) ?_
  show gx_Ev S gm_X5_isGroup 1 0 [some (.ref (A 5 0 0)), some (.int x)] [] h _
  refine gx_iload_n dX5_isGroup_0 rfl ?_
  refine gx_if_lt dX5_isGroup_1 (tgt := 17) (by decide) (fun hc1 => ?_) (fun hc1 => ?_)
  · refine gx_iconst dX5_isGroup_17 (v := 0) (by decide) ?_
    refine gx_ireturn dX5_isGroup_18 ?_
    exact ⟨⟨_, rfl, rfl⟩, rfl, congrArg (fun z => some (Value.int z)) (gs_bf (fun z => Int32.not_lt.mpr z.1 hc1))⟩
  · refine gx_iload_n dX5_isGroup_4 rfl ?_
    refine gx_aload_n dX5_isGroup_5 rfl ?_
    refine gx_get dX5_isGroup_6 gf_X5_46 (gs_g5 R ) (v := .ref (A 7 0 0)) (rfl) ?_
    refine gx_alen dX5_isGroup_9 (by decide) (gs_g7 R) (v := nI (σ.1 0 0 0)) rfl ?_
    refine gx_icmp_ge dX5_isGroup_10 (tgt := 17) (by decide) (fun hc2 => ?_) (fun hc2 => ?_)
    · refine gx_iconst dX5_isGroup_17 (v := 0) (by decide) ?_
      refine gx_ireturn dX5_isGroup_18 ?_
      exact ⟨⟨_, rfl, rfl⟩, rfl, congrArg (fun z => some (Value.int z)) (gs_bf (fun z => Int32.not_lt.mpr hc2 z.2))⟩
    · refine gx_iconst dX5_isGroup_13 (v := 1) (by decide) ?_
      refine gx_goto dX5_isGroup_14 (tgt := 18) (by decide) ?_
      refine gx_ireturn dX5_isGroup_18 ?_
      exact ⟨⟨_, rfl, rfl⟩, rfl, congrArg (fun z => some (Value.int z)) (gs_bt (⟨gs_nlt hc1, gs_nle hc2⟩))⟩
set_option maxHeartbeats 4000000 in
theorem cc_X5_hasOrder {S : gx_S} {h : gx_H} {σ : gs_T} {A : gs_A} (R : gs_R h σ A) (x : Int32) : gx_Cn S gm_X5_hasOrder 1 [.ref (A 5 0 0), .int x] h (fun r h' => h' = h ∧ r = some (.int (gs_bi (0 ≤ x ∧ x < nI (σ.1 1 0 0))))) := by
  refine gx_Cn.of gt_X5_hasOrder (by simp [Value.category]) (Nat.le_of_ble_eq_true rfl) ?_
  show gx_Ev S gm_X5_hasOrder 1 0 [some (.ref (A 5 0 0)), some (.int x)] [] h _
  refine gx_iload_n dX5_hasOrder_0 rfl ?_
  refine gx_if_lt dX5_hasOrder_1 (tgt := 16) (by decide) (fun hc1 => ?_) (fun hc1 => ?_)
  · refine gx_iconst dX5_hasOrder_16 (v := 0) (by decide) ?_
    refine gx_ireturn dX5_hasOrder_17 ?_
    exact ⟨⟨_, rfl, rfl⟩, rfl, congrArg (fun z => some (Value.int z)) (gs_bf (fun z => Int32.not_lt.mpr z.1 hc1))⟩
  · refine gx_iload_n dX5_hasOrder_4 rfl ?_
    refine gx_aload_n dX5_hasOrder_5 rfl ?_
    refine gx_get dX5_hasOrder_6 gf_X5_59 (gs_g5 R ) (v := .int (nI (σ.1 1 0 0))) (rfl) ?_
    refine gx_icmp_ge dX5_hasOrder_9 (tgt := 16) (by decide) (fun hc2 => ?_) (fun hc2 => ?_)
    · refine gx_iconst dX5_hasOrder_16 (v := 0) (by decide) ?_
      refine gx_ireturn dX5_hasOrder_17 ?_
      exact ⟨⟨_, rfl, rfl⟩, rfl, congrArg (fun z => some (Value.int z)) (gs_bf (fun z => Int32.not_lt.mpr hc2 z.2))⟩
    · refine gx_iconst dX5_hasOrder_12 (v := 1) (by decide) ?_
      refine gx_goto dX5_hasOrder_13 (tgt := 17) (by decide) ?_
      refine gx_ireturn dX5_hasOrder_17 ?_
      exact ⟨⟨_, rfl, rfl⟩, rfl, congrArg (fun z => some (Value.int z)) (gs_bt (⟨gs_nlt hc1, gs_nle hc2⟩))⟩
set_option maxHeartbeats 4000000 in
theorem cc_X0_has {S : gx_S} {h : gx_H} {σ : gs_T} {A : gs_A} (R : gs_R h σ A) (x : Int32) : gx_Cn S gm_X0_has 1 [.ref (A 0 0 0), .int x] h (fun r h' => h' = h ∧ r = some (.int (gs_bi (0 ≤ x ∧ x < nI (σ.1 2 0 0))))) := by
  refine gx_Cn.of gt_X0_has (by simp [Value.category]) (Nat.le_of_ble_eq_true rfl) ?_
  show gx_Ev S gm_X0_has 1 0 [some (.ref (A 0 0 0)), some (.int x)] [] h _
  refine gx_iload_n dX0_has_0 rfl ?_
  refine gx_if_lt dX0_has_1 (tgt := 16) (by decide) (fun hc1 => ?_) (fun hc1 => ?_)
  · refine gx_iconst dX0_has_16 (v := 0) (by decide) ?_
    refine gx_ireturn dX0_has_17 ?_
    exact ⟨⟨_, rfl, rfl⟩, rfl, congrArg (fun z => some (Value.int z)) (gs_bf (fun z => Int32.not_lt.mpr z.1 hc1))⟩
  · refine gx_iload_n dX0_has_4 rfl ?_
    refine gx_aload_n dX0_has_5 rfl ?_
    refine gx_get dX0_has_6 gf_X0_17 (gs_g0 R ) (v := .int (nI (σ.1 2 0 0))) (rfl) ?_
    refine gx_icmp_ge dX0_has_9 (tgt := 16) (by decide) (fun hc2 => ?_) (fun hc2 => ?_)
    · refine gx_iconst dX0_has_16 (v := 0) (by decide) ?_
      refine gx_ireturn dX0_has_17 ?_
      exact ⟨⟨_, rfl, rfl⟩, rfl, congrArg (fun z => some (Value.int z)) (gs_bf (fun z => Int32.not_lt.mpr hc2 z.2))⟩
    · refine gx_iconst dX0_has_12 (v := 1) (by decide) ?_
      refine gx_goto dX0_has_13 (tgt := 17) (by decide) ?_
      refine gx_ireturn dX0_has_17 ?_
      exact ⟨⟨_, rfl, rfl⟩, rfl, congrArg (fun z => some (Value.int z)) (gs_bt (⟨gs_nlt hc1, gs_nle hc2⟩))⟩
theorem gs_k3 {k : Int32} (h : 3 < k) (h4 : k < 4) : False := by
  rw [Int32.lt_iff_toInt_lt] at h h4
  have e3 : (3 : Int32).toInt = 3 := by decide
  have e4 : (4 : Int32).toInt = 4 := by decide
  omega
theorem gs_k3n {k : Int32} (h : ¬ 3 < k) : k < 4 := by
  rw [Int32.lt_iff_toInt_lt] at *
  have e3 : (3 : Int32).toInt = 3 := by decide
  have e4 : (4 : Int32).toInt = 4 := by decide
  omega
set_option maxHeartbeats 4000000 in
theorem cc_X5_isOrder {S : gx_S} {h : gx_H} (x k a b c : Int32) : gx_Cn S gm_X5_isOrder 2 [.int x, .int k, .int a, .int b, .int c] h (fun r h' => h' = h ∧ r = some (.int (gs_bi (sv_ok x k a b c)))) := by
  refine gx_Cn.of gt_X5_isOrder (by simp [Value.category]) (Nat.le_of_ble_eq_true rfl) ?_
  show gx_Ev S gm_X5_isOrder 2 0 [some (.int x), some (.int k), some (.int a), some (.int b), some (.int c)] [] h _
  refine gx_iload_n dX5_isOrder_0 rfl ?_
  refine gx_invS dX5_isOrder_1 wm_X5_171 gt_X5_isClient ws_X5_isClient (As := [.int x]) (rest := []) rfl rfl (Nat.le_of_ble_eq_true rfl) (by decide) (cc_X5_isClient x) (fun r1 h q1 => ?_)
  obtain ⟨rfl, rfl⟩ := q1
  show gx_Ev _ _ _ _ _ [.int (gs_bi (0 ≤ x ∧ x < 4))] _ _
  refine gx_if_eq dX5_isOrder_4 (tgt := 46) (by decide) (fun hc1 => ?_) (fun hc1 => ?_)
  · have hc1 := gs_b0 hc1
    refine gx_iconst dX5_isOrder_46 (v := 0) (by decide) ?_
    refine gx_ireturn dX5_isOrder_47 ?_
    exact ⟨⟨_, rfl, rfl⟩, rfl, congrArg (fun z => some (Value.int z)) (gs_bf (fun z => hc1 z.1))⟩
  · have hc1 := gs_b1 hc1
    refine gx_iload_n dX5_isOrder_7 rfl ?_
    refine gx_if_lt dX5_isOrder_8 (tgt := 46) (by decide) (fun hc2 => ?_) (fun hc2 => ?_)
    · refine gx_iconst dX5_isOrder_46 (v := 0) (by decide) ?_
      refine gx_ireturn dX5_isOrder_47 ?_
      exact ⟨⟨_, rfl, rfl⟩, rfl, congrArg (fun z => some (Value.int z)) (gs_bf (fun z => Int32.not_lt.mpr z.2.1.1 hc2))⟩
    · refine gx_iload_n dX5_isOrder_11 rfl ?_
      refine gx_iconst dX5_isOrder_12 (v := 3) (by decide) ?_
      refine gx_icmp_gt dX5_isOrder_13 (tgt := 46) (by decide) (fun hc3 => ?_) (fun hc3 => ?_)
      · refine gx_iconst dX5_isOrder_46 (v := 0) (by decide) ?_
        refine gx_ireturn dX5_isOrder_47 ?_
        exact ⟨⟨_, rfl, rfl⟩, rfl, congrArg (fun z => some (Value.int z)) (gs_bf (fun z => gs_k3 hc3 z.2.1.2))⟩
      · refine gx_iload_n dX5_isOrder_16 rfl ?_
        refine gx_invS dX5_isOrder_17 wm_X5_165 gt_X5_isKey ws_X5_isKey (As := [.int a]) (rest := []) rfl rfl (Nat.le_of_ble_eq_true rfl) (by decide) (cc_X5_isKey a) (fun r1 h q1 => ?_)
        obtain ⟨rfl, rfl⟩ := q1
        show gx_Ev _ _ _ _ _ [.int (gs_bi (0 ≤ a ∧ a < 16))] _ _
        refine gx_if_eq dX5_isOrder_20 (tgt := 46) (by decide) (fun hc4 => ?_) (fun hc4 => ?_)
        · have hc4 := gs_b0 hc4
          refine gx_iconst dX5_isOrder_46 (v := 0) (by decide) ?_
          refine gx_ireturn dX5_isOrder_47 ?_
          exact ⟨⟨_, rfl, rfl⟩, rfl, congrArg (fun z => some (Value.int z)) (gs_bf (fun z => hc4 z.2.2.1))⟩
        · have hc4 := gs_b1 hc4
          refine gx_iload_n dX5_isOrder_23 rfl ?_
          refine gx_invS dX5_isOrder_24 wm_X5_165 gt_X5_isKey ws_X5_isKey (As := [.int b]) (rest := []) rfl rfl (Nat.le_of_ble_eq_true rfl) (by decide) (cc_X5_isKey b) (fun r1 h q1 => ?_)
          obtain ⟨rfl, rfl⟩ := q1
          show gx_Ev _ _ _ _ _ [.int (gs_bi (0 ≤ b ∧ b < 16))] _ _
          refine gx_if_eq dX5_isOrder_27 (tgt := 46) (by decide) (fun hc5 => ?_) (fun hc5 => ?_)
          · have hc5 := gs_b0 hc5
            refine gx_iconst dX5_isOrder_46 (v := 0) (by decide) ?_
            refine gx_ireturn dX5_isOrder_47 ?_
            exact ⟨⟨_, rfl, rfl⟩, rfl, congrArg (fun z => some (Value.int z)) (gs_bf (fun z => hc5 z.2.2.2.1))⟩
          · have hc5 := gs_b1 hc5
            refine gx_iload dX5_isOrder_30 rfl ?_
            refine gx_if_lt dX5_isOrder_32 (tgt := 46) (by decide) (fun hc6 => ?_) (fun hc6 => ?_)
            · refine gx_iconst dX5_isOrder_46 (v := 0) (by decide) ?_
              refine gx_ireturn dX5_isOrder_47 ?_
              exact ⟨⟨_, rfl, rfl⟩, rfl, congrArg (fun z => some (Value.int z)) (gs_bf (fun z => Int32.not_lt.mpr z.2.2.2.2.1 hc6))⟩
            · refine gx_iload dX5_isOrder_35 rfl ?_
              refine gx_ldc dX5_isOrder_37 wt_X5_194 ?_
              refine gx_icmp_gt dX5_isOrder_39 (tgt := 46) (by decide) (fun hc7 => ?_) (fun hc7 => ?_)
              · refine gx_iconst dX5_isOrder_46 (v := 0) (by decide) ?_
                refine gx_ireturn dX5_isOrder_47 ?_
                exact ⟨⟨_, rfl, rfl⟩, rfl, congrArg (fun z => some (Value.int z)) (gs_bf (fun z => Int32.not_lt.mpr z.2.2.2.2.2 hc7))⟩
              · refine gx_iconst dX5_isOrder_42 (v := 1) (by decide) ?_
                refine gx_goto dX5_isOrder_43 (tgt := 47) (by decide) ?_
                refine gx_ireturn dX5_isOrder_47 ?_
                exact ⟨⟨_, rfl, rfl⟩, rfl, congrArg (fun z => some (Value.int z)) (gs_bt (⟨hc1, ⟨gs_nlt hc2, gs_k3n hc3⟩, hc4, hc5, gs_nlt hc6, Int32.not_lt.mp hc7⟩))⟩
set_option maxHeartbeats 4000000 in
theorem cc_X5_keeperOf {S : gx_S} {h : gx_H} {σ : gs_T} {A : gs_A} (R : gs_R h σ A) (W : gw_W σ) {k : Nat} (hk : k < 16) : gx_Cn S gm_X5_keeperOf 1 [.ref (A 5 0 0), .int (nI k)] h (fun r h' => h' = h ∧ r = some (.ref (A 1 (k % σ.1 0 0 0) 0))) := by
  refine gx_Cn.of gt_X5_keeperOf (by simp [Value.category]) (Nat.le_of_ble_eq_true rfl) ?_
  show gx_Ev S gm_X5_keeperOf 1 0 [some (.ref (A 5 0 0)), some (.int (nI k))] [] h _
  have hq : k % σ.1 0 0 0 < σ.1 0 0 0 := Nat.mod_lt _ (by have := gw_n2 W; omega)
  refine gx_aload_n dX5_keeperOf_0 rfl ?_
  refine gx_get dX5_keeperOf_1 gf_X5_46 (gs_g5 R ) (v := .ref (A 7 0 0)) (rfl) ?_
  refine gx_iload_n dX5_keeperOf_4 rfl ?_
  refine gx_aload_n dX5_keeperOf_5 rfl ?_
  refine gx_get dX5_keeperOf_6 gf_X5_46 (gs_g5 R ) (v := .ref (A 7 0 0)) (rfl) ?_
  refine gx_alen dX5_keeperOf_9 (by decide) (gs_g7 R) (v := nI (σ.1 0 0 0)) rfl ?_
  refine gx_irem dX5_keeperOf_10 (nI_ne0 (by have := gw_n2 W; omega) (by have := gw_n4 W; omega)) ?_
  rw [show ((nI k) - (nI k) / (nI (σ.1 0 0 0)) * (nI (σ.1 0 0 0)) : Int32) = nI (k % σ.1 0 0 0) from pk_rem (by omega) (by have := gw_n2 W; omega) (by have := gw_n4 W; omega)]
  refine gr_7 dX5_keeperOf_11 R (q := k % σ.1 0 0 0) rfl hq (by have := gw_n4 W; omega) (gw_g W hq) ?_
  refine gx_areturn dX5_keeperOf_12 ?_
  exact ⟨⟨_, rfl⟩, rfl, rfl⟩
theorem gs_zs (x : Nat) : x = 0 ∨ ∃ y, x = y + 1 := by
  cases x with
  | zero => exact Or.inl rfl
  | succ y => exact Or.inr ⟨y, rfl⟩
def gs_cp (x y : Int32) : Int32 := if y ≤ x then (if x = y then 0 else 1) else -1
theorem gs_cp_lt {x y : Int32} : gs_cp x y < 0 ↔ x < y := by
  unfold gs_cp
  split
  · rename_i h
    refine ⟨fun z => ?_, fun z => absurd z (Int32.not_lt.mpr h)⟩
    split at z
    · exact absurd z (by decide)
    · exact absurd z (by decide)
  · rename_i h
    exact ⟨fun _ => gs_nle h, fun _ => by decide⟩
theorem gs_cp_eq {x y : Int32} : gs_cp x y = 0 ↔ x = y := by
  unfold gs_cp
  split
  · split
    · rename_i h; exact ⟨fun _ => h, fun _ => rfl⟩
    · rename_i h; exact ⟨fun z => absurd z (by decide), fun z => absurd z h⟩
  · rename_i h
    exact ⟨fun z => absurd z (by decide), fun z => absurd (z ▸ Int32.le_refl _) h⟩
theorem gs_cp_gt {x y : Int32} : 0 < gs_cp x y ↔ y < x := by
  unfold gs_cp
  split
  · split
    · rename_i h h2
      refine ⟨fun z => absurd z (by decide), fun z => ?_⟩
      rw [h2, Int32.lt_iff_toInt_lt] at z
      omega
    · rename_i h h2
      refine ⟨fun _ => ?_, fun _ => by decide⟩
      rw [Int32.le_iff_toInt_le] at h
      rw [Int32.lt_iff_toInt_lt]
      have : x.toInt ≠ y.toInt := fun e => h2 (Int32.toInt_inj.mp e)
      omega
  · rename_i h
    exact ⟨fun z => absurd z (by decide), fun z => absurd (Int32.le_of_lt z) h⟩
set_option maxHeartbeats 4000000 in
theorem cc_J6_compare_7cf53 {S : gx_S} {h : gx_H} (x y : Int32) : gx_Cn S gm_J6_compare_7cf53 1 [.int x, .int y] h (fun r h' => h' = h ∧ r = some (.int (gs_cp x y))) := by
  refine gx_Cn.of gt_J6_compare_7cf53 (by simp [Value.category]) (Nat.le_of_ble_eq_true rfl) ?_
  show gx_Ev S gm_J6_compare_7cf53 1 0 [some (.int x), some (.int y)] [] h _
  refine gx_iload_n dJ6_compare_7cf53_0 rfl ?_
  refine gx_iload_n dJ6_compare_7cf53_1 rfl ?_
  refine gx_icmp_ge dJ6_compare_7cf53_2 (tgt := 9) (by decide) (fun hc1 => ?_) (fun hc1 => ?_)
  · refine gx_iload_n dJ6_compare_7cf53_9 rfl ?_
    refine gx_iload_n dJ6_compare_7cf53_10 rfl ?_
    refine gx_icmp_ne dJ6_compare_7cf53_11 (tgt := 18) (by decide) (fun hc2 => ?_) (fun hc2 => ?_)
    · refine gx_iconst dJ6_compare_7cf53_18 (v := 1) (by decide) ?_
      refine gx_ireturn dJ6_compare_7cf53_19 ?_
      exact ⟨⟨_, rfl, rfl⟩, rfl, by simp [gs_cp, hc1, hc2]⟩
    · refine gx_iconst dJ6_compare_7cf53_14 (v := 0) (by decide) ?_
      refine gx_goto dJ6_compare_7cf53_15 (tgt := 19) (by decide) ?_
      refine gx_ireturn dJ6_compare_7cf53_19 ?_
      exact ⟨⟨_, rfl, rfl⟩, rfl, by simp [gs_cp, hc1, hc2]⟩
  · refine gx_iconst dJ6_compare_7cf53_5 (v := (-1)) (by decide) ?_
    refine gx_goto dJ6_compare_7cf53_6 (tgt := 19) (by decide) ?_
    refine gx_ireturn dJ6_compare_7cf53_19 ?_
    exact ⟨⟨_, rfl, rfl⟩, rfl, by simp [gs_cp, hc1]⟩
abbrev sc_hal (σ : gs_T) (g o : Nat) : Prop := ¬ σ.2.1 8 g o = -1 ∧ (σ.1 7 g o = 0 ∨ ¬ σ.2.1 9 g o = -1)
abbrev sc_wt (σ : gs_T) (g o : Nat) : Prop := ¬ σ.2.1 8 g o = -1 ∧ σ.2.1 11 g o = 0
def sc_lt (σ : gs_T) (g o : Nat) : Int32 := if σ.2.1 10 g o = -1 then σ.2.1 8 g o else σ.2.1 10 g o
abbrev sc_ie (σ : gs_T) (g o g2 o2 : Nat) : Prop := sc_lt σ g o < sc_lt σ g2 o2 ∨ (sc_lt σ g o = sc_lt σ g2 o2 ∧ o < o2)
set_option maxHeartbeats 4000000 in
theorem cc_X4_hasAllLocalTimes {S : gx_S} {h : gx_H} {σ : gs_T} {A : gs_A} (R : gs_R h σ A) {g o : Nat} (hp : σ.1 6 g o = 1) : gx_Cn S gm_X4_hasAllLocalTimes 1 [.ref (A 4 g o)] h (fun r h' => h' = h ∧ r = some (.int (gs_bi (sc_hal σ g o)))) := by
  refine gx_Cn.of gt_X4_hasAllLocalTimes (by simp [Value.category]) (Nat.le_of_ble_eq_true rfl) ?_
  show gx_Ev S gm_X4_hasAllLocalTimes 1 0 [some (.ref (A 4 g o))] [] h _
  rcases gs_zs (σ.1 7 g o) with hot | ⟨g9, hot⟩
  · refine gx_aload_n dX4_hasAllLocalTimes_0 rfl ?_
    refine gx_get dX4_hasAllLocalTimes_1 gf_X4_9 (gs_g4 R hp) (v := .int (σ.2.1 8 g o)) (rfl) ?_
    refine gx_iconst dX4_hasAllLocalTimes_4 (v := (-1)) (by decide) ?_
    refine gx_icmp_eq dX4_hasAllLocalTimes_5 (tgt := 27) (by decide) (fun hc1 => ?_) (fun hc1 => ?_)
    · refine gx_iconst dX4_hasAllLocalTimes_27 (v := 0) (by decide) ?_
      refine gx_ireturn dX4_hasAllLocalTimes_28 ?_
      exact ⟨⟨_, rfl, rfl⟩, rfl, congrArg (fun z => some (Value.int z)) (gs_bf (fun z => z.1 hc1))⟩
    · refine gx_aload_n dX4_hasAllLocalTimes_8 rfl ?_
      refine gx_get dX4_hasAllLocalTimes_9 gf_X4_28 (gs_g4 R hp) (v := .null) (by simp [hot, gs_op, va_rf]) ?_
      refine gx_ifnullN dX4_hasAllLocalTimes_12 (tgt := 23) (by decide) ?_
      refine gx_iconst dX4_hasAllLocalTimes_23 (v := 1) (by decide) ?_
      refine gx_goto dX4_hasAllLocalTimes_24 (tgt := 28) (by decide) ?_
      refine gx_ireturn dX4_hasAllLocalTimes_28 ?_
      exact ⟨⟨_, rfl, rfl⟩, rfl, congrArg (fun z => some (Value.int z)) (gs_bt (⟨hc1, Or.inl hot⟩))⟩
  · refine gx_aload_n dX4_hasAllLocalTimes_0 rfl ?_
    refine gx_get dX4_hasAllLocalTimes_1 gf_X4_9 (gs_g4 R hp) (v := .int (σ.2.1 8 g o)) (rfl) ?_
    refine gx_iconst dX4_hasAllLocalTimes_4 (v := (-1)) (by decide) ?_
    refine gx_icmp_eq dX4_hasAllLocalTimes_5 (tgt := 27) (by decide) (fun hc1 => ?_) (fun hc1 => ?_)
    · refine gx_iconst dX4_hasAllLocalTimes_27 (v := 0) (by decide) ?_
      refine gx_ireturn dX4_hasAllLocalTimes_28 ?_
      exact ⟨⟨_, rfl, rfl⟩, rfl, congrArg (fun z => some (Value.int z)) (gs_bf (fun z => z.1 hc1))⟩
    · refine gx_aload_n dX4_hasAllLocalTimes_8 rfl ?_
      refine gx_get dX4_hasAllLocalTimes_9 gf_X4_28 (gs_g4 R hp) (v := .ref (A 4 g9 o)) (by simp [hot, gs_op, va_rf]) ?_
      refine gx_ifnull dX4_hasAllLocalTimes_12 ?_
      refine gx_aload_n dX4_hasAllLocalTimes_15 rfl ?_
      refine gx_get dX4_hasAllLocalTimes_16 gf_X4_15 (gs_g4 R hp) (v := .int (σ.2.1 9 g o)) (rfl) ?_
      refine gx_iconst dX4_hasAllLocalTimes_19 (v := (-1)) (by decide) ?_
      refine gx_icmp_eq dX4_hasAllLocalTimes_20 (tgt := 27) (by decide) (fun hc2 => ?_) (fun hc2 => ?_)
      · refine gx_iconst dX4_hasAllLocalTimes_27 (v := 0) (by decide) ?_
        refine gx_ireturn dX4_hasAllLocalTimes_28 ?_
        exact ⟨⟨_, rfl, rfl⟩, rfl, congrArg (fun z => some (Value.int z)) (gs_bf (fun z => z.2.elim (fun e => by rw [hot] at e; omega) (fun e => e hc2)))⟩
      · refine gx_iconst dX4_hasAllLocalTimes_23 (v := 1) (by decide) ?_
        refine gx_goto dX4_hasAllLocalTimes_24 (tgt := 28) (by decide) ?_
        refine gx_ireturn dX4_hasAllLocalTimes_28 ?_
        exact ⟨⟨_, rfl, rfl⟩, rfl, congrArg (fun z => some (Value.int z)) (gs_bt (⟨hc1, Or.inr hc2⟩))⟩
set_option maxHeartbeats 4000000 in
theorem cc_X4_waits {S : gx_S} {h : gx_H} {σ : gs_T} {A : gs_A} (R : gs_R h σ A) {g o : Nat} (hp : σ.1 6 g o = 1) : gx_Cn S gm_X4_waits 1 [.ref (A 4 g o)] h (fun r h' => h' = h ∧ r = some (.int (gs_bi (sc_wt σ g o)))) := by
  refine gx_Cn.of gt_X4_waits (by simp [Value.category]) (Nat.le_of_ble_eq_true rfl) ?_
  show gx_Ev S gm_X4_waits 1 0 [some (.ref (A 4 g o))] [] h _
  refine gx_aload_n dX4_waits_0 rfl ?_
  refine gx_get dX4_waits_1 gf_X4_9 (gs_g4 R hp) (v := .int (σ.2.1 8 g o)) (rfl) ?_
  refine gx_iconst dX4_waits_4 (v := (-1)) (by decide) ?_
  refine gx_icmp_eq dX4_waits_5 (tgt := 19) (by decide) (fun hc1 => ?_) (fun hc1 => ?_)
  · refine gx_iconst dX4_waits_19 (v := 0) (by decide) ?_
    refine gx_ireturn dX4_waits_20 ?_
    exact ⟨⟨_, rfl, rfl⟩, rfl, congrArg (fun z => some (Value.int z)) (gs_bf (fun z => z.1 hc1))⟩
  · refine gx_aload_n dX4_waits_8 rfl ?_
    refine gx_get dX4_waits_9 gf_X4_32 (gs_g4 R hp) (v := .int (σ.2.1 11 g o)) (rfl) ?_
    refine gx_if_ne dX4_waits_12 (tgt := 19) (by decide) (fun hc2 => ?_) (fun hc2 => ?_)
    · refine gx_iconst dX4_waits_19 (v := 0) (by decide) ?_
      refine gx_ireturn dX4_waits_20 ?_
      exact ⟨⟨_, rfl, rfl⟩, rfl, congrArg (fun z => some (Value.int z)) (gs_bf (fun z => hc2 z.2))⟩
    · refine gx_iconst dX4_waits_15 (v := 1) (by decide) ?_
      refine gx_goto dX4_waits_16 (tgt := 20) (by decide) ?_
      refine gx_ireturn dX4_waits_20 ?_
      exact ⟨⟨_, rfl, rfl⟩, rfl, congrArg (fun z => some (Value.int z)) (gs_bt (⟨hc1, hc2⟩))⟩
set_option maxHeartbeats 4000000 in
theorem cc_X4_leastTime {S : gx_S} {h : gx_H} {σ : gs_T} {A : gs_A} (R : gs_R h σ A) {g o : Nat} (hp : σ.1 6 g o = 1) : gx_Cn S gm_X4_leastTime 1 [.ref (A 4 g o)] h (fun r h' => h' = h ∧ r = some (.int (sc_lt σ g o))) := by
  refine gx_Cn.of gt_X4_leastTime (by simp [Value.category]) (Nat.le_of_ble_eq_true rfl) ?_
  show gx_Ev S gm_X4_leastTime 1 0 [some (.ref (A 4 g o))] [] h _
  refine gx_aload_n dX4_leastTime_0 rfl ?_
  refine gx_get dX4_leastTime_1 gf_X4_18 (gs_g4 R hp) (v := .int (σ.2.1 10 g o)) (rfl) ?_
  refine gx_iconst dX4_leastTime_4 (v := (-1)) (by decide) ?_
  refine gx_icmp_eq dX4_leastTime_5 (tgt := 15) (by decide) (fun hc1 => ?_) (fun hc1 => ?_)
  · refine gx_aload_n dX4_leastTime_15 rfl ?_
    refine gx_get dX4_leastTime_16 gf_X4_9 (gs_g4 R hp) (v := .int (σ.2.1 8 g o)) (rfl) ?_
    refine gx_ireturn dX4_leastTime_19 ?_
    exact ⟨⟨_, rfl, rfl⟩, rfl, by simp [sc_lt, hc1]⟩
  · refine gx_aload_n dX4_leastTime_8 rfl ?_
    refine gx_get dX4_leastTime_9 gf_X4_18 (gs_g4 R hp) (v := .int (σ.2.1 10 g o)) (rfl) ?_
    refine gx_goto dX4_leastTime_12 (tgt := 19) (by decide) ?_
    refine gx_ireturn dX4_leastTime_19 ?_
    exact ⟨⟨_, rfl, rfl⟩, rfl, by simp [sc_lt, hc1]⟩
set_option maxHeartbeats 4000000 in
theorem cc_X4_isEarlierThan {S : gx_S} {h : gx_H} {σ : gs_T} {A : gs_A} (R : gs_R h σ A) {g o g2 o2 : Nat} (hp : σ.1 6 g o = 1) (hp2 : σ.1 6 g2 o2 = 1) (ho : σ.1 11 o 0 = 1) (ho2 : σ.1 11 o2 0 = 1) (hb : o < 40) (hb2 : o2 < 40) : gx_Cn S gm_X4_isEarlierThan 2 [.ref (A 4 g o), .ref (A 4 g2 o2)] h (fun r h' => h' = h ∧ r = some (.int (gs_bi (sc_ie σ g o g2 o2)))) := by
  refine gx_Cn.of gt_X4_isEarlierThan (by simp [Value.category]) (Nat.le_of_ble_eq_true rfl) ?_
  show gx_Ev S gm_X4_isEarlierThan 2 0 [some (.ref (A 4 g o)), some (.ref (A 4 g2 o2)), none] [] h _
  refine gx_aload_n dX4_isEarlierThan_0 rfl ?_
  refine gx_invV dX4_isEarlierThan_1 wm_X4_36 gt_X4_leastTime wy_X4_leastTime wl_X4_leastTime (ci := 4) rfl rfl (gs_g4 R hp) (As := []) (rest := []) rfl rfl (Nat.le_of_ble_eq_true rfl) (by decide) (cc_X4_leastTime R hp) (fun r1 h q1 => ?_)
  obtain ⟨rfl, rfl⟩ := q1
  show gx_Ev _ _ _ _ _ [.int (sc_lt σ g o)] _ _
  refine gx_aload_n dX4_isEarlierThan_4 rfl ?_
  refine gx_invV dX4_isEarlierThan_5 wm_X4_36 gt_X4_leastTime wy_X4_leastTime wl_X4_leastTime (ci := 4) rfl rfl (gs_g4 R hp2) (As := []) (rest := [.int (sc_lt σ g o)]) rfl rfl (Nat.le_of_ble_eq_true rfl) (by decide) (cc_X4_leastTime R hp2) (fun r1 h q1 => ?_)
  obtain ⟨rfl, rfl⟩ := q1
  show gx_Ev _ _ _ _ _ [.int (sc_lt σ g2 o2), .int (sc_lt σ g o)] _ _
  refine gx_invS dX4_isEarlierThan_8 wm_X4_40 gt_J6_compare_7cf53 ws_J6_compare_7cf53 (As := [.int (sc_lt σ g o), .int (sc_lt σ g2 o2)]) (rest := []) rfl rfl (Nat.le_of_ble_eq_true rfl) (by decide) (cc_J6_compare_7cf53 (sc_lt σ g o) (sc_lt σ g2 o2)) (fun r1 h q1 => ?_)
  obtain ⟨rfl, rfl⟩ := q1
  show gx_Ev _ _ _ _ _ [.int (gs_cp (sc_lt σ g o) (sc_lt σ g2 o2))] _ _
  refine gx_istore_n dX4_isEarlierThan_11 (by decide) rfl (L' := [some (.ref (A 4 g o)), some (.ref (A 4 g2 o2)), some (.int (gs_cp (sc_lt σ g o) (sc_lt σ g2 o2)))]) rfl ?_
  refine gx_iload_n dX4_isEarlierThan_12 rfl ?_
  refine gx_if_lt dX4_isEarlierThan_13 (tgt := 37) (by decide) (fun hc1 => ?_) (fun hc1 => ?_)
  · refine gx_iconst dX4_isEarlierThan_37 (v := 1) (by decide) ?_
    refine gx_goto dX4_isEarlierThan_38 (tgt := 42) (by decide) ?_
    refine gx_ireturn dX4_isEarlierThan_42 ?_
    exact ⟨⟨_, rfl, rfl⟩, rfl, congrArg (fun z => some (Value.int z)) (gs_bt (Or.inl (gs_cp_lt.mp hc1)))⟩
  · refine gx_iload_n dX4_isEarlierThan_16 rfl ?_
    refine gx_if_ne dX4_isEarlierThan_17 (tgt := 41) (by decide) (fun hc2 => ?_) (fun hc2 => ?_)
    · refine gx_iconst dX4_isEarlierThan_41 (v := 0) (by decide) ?_
      refine gx_ireturn dX4_isEarlierThan_42 ?_
      exact ⟨⟨_, rfl, rfl⟩, rfl, congrArg (fun z => some (Value.int z)) (gs_bf (fun z => z.elim (fun e => hc1 (gs_cp_lt.mpr e)) (fun e => hc2 (gs_cp_eq.mpr e.1))))⟩
    · refine gx_aload_n dX4_isEarlierThan_20 rfl ?_
      refine gx_get dX4_isEarlierThan_21 gf_X4_21 (gs_g4 R hp) (v := .ref (A 3 o 0)) (rfl) ?_
      refine gx_get dX4_isEarlierThan_24 gf_X4_46 (gs_g3 R ho) (v := .int (nI o)) (rfl) ?_
      refine gx_aload_n dX4_isEarlierThan_27 rfl ?_
      refine gx_get dX4_isEarlierThan_28 gf_X4_21 (gs_g4 R hp2) (v := .ref (A 3 o2 0)) (rfl) ?_
      refine gx_get dX4_isEarlierThan_31 gf_X4_46 (gs_g3 R ho2) (v := .int (nI o2)) (rfl) ?_
      refine gx_icmp_ge dX4_isEarlierThan_34 (tgt := 41) (by decide) (fun hc3 => ?_) (fun hc3 => ?_)
      · refine gx_iconst dX4_isEarlierThan_41 (v := 0) (by decide) ?_
        refine gx_ireturn dX4_isEarlierThan_42 ?_
        exact ⟨⟨_, rfl, rfl⟩, rfl, congrArg (fun z => some (Value.int z)) (gs_bf (fun z => z.elim (fun e => hc1 (gs_cp_lt.mpr e)) (fun e => nI_ge e.2 (by omega) hc3)))⟩
      · refine gx_iconst dX4_isEarlierThan_37 (v := 1) (by decide) ?_
        refine gx_goto dX4_isEarlierThan_38 (tgt := 42) (by decide) ?_
        refine gx_ireturn dX4_isEarlierThan_42 ?_
        exact ⟨⟨_, rfl, rfl⟩, rfl, congrArg (fun z => some (Value.int z)) (gs_bt (Or.inr ⟨gs_cp_eq.mp hc2, Nat.lt_of_not_le (fun z => hc3 (nI_le z (by omega)))⟩))⟩
abbrev sc_mv (σ : gs_T) (o : Nat) (u : Int32) : Prop := σ.2.1 0 o 0 = 1 ∧ ¬ σ.1 13 o 0 = σ.1 14 o 0 ∧ ¬ u < σ.2.1 1 o 0
def sc_bA (σ : gs_T) (o : Nat) (u v : Int32) : Int32 := if σ.2.1 0 o 0 = 0 then u + σ.2.1 1 o 0 else if σ.2.1 0 o 0 = 3 then v else if sc_mv σ o u then u - σ.2.1 1 o 0 else u
def sc_bB (σ : gs_T) (o : Nat) (u v : Int32) : Int32 := if σ.2.1 0 o 0 = 3 then u else if sc_mv σ o u then v + σ.2.1 1 o 0 else v
def sc_rp (σ : gs_T) (o : Nat) (u v : Int32) : Int32 := if σ.2.1 0 o 0 = 1 then (if u < σ.2.1 1 o 0 then 0 else 1) else if σ.2.1 0 o 0 = 2 then u + v else sc_bA σ o u v
set_option maxHeartbeats 4000000 in
theorem cc_X3_isMoved {S : gx_S} {h : gx_H} {σ : gs_T} {A : gs_A} (R : gs_R h σ A) (W : gw_W σ) {o : Nat} (ho : σ.1 11 o 0 = 1) (u : Int32) : gx_Cn S gm_X3_isMoved 1 [.ref (A 3 o 0), .int u] h (fun r h' => h' = h ∧ r = some (.int (gs_bi (sc_mv σ o u)))) := by
  refine gx_Cn.of gt_X3_isMoved (by simp [Value.category]) (Nat.le_of_ble_eq_true rfl) ?_
  show gx_Ev S gm_X3_isMoved 1 0 [some (.ref (A 3 o 0)), some (.int u)] [] h _
  refine gx_aload_n dX3_isMoved_0 rfl ?_
  refine gx_get dX3_isMoved_1 gf_X3_18 (gs_g3 R ho) (v := .int (σ.2.1 0 o 0)) (rfl) ?_
  refine gx_iconst dX3_isMoved_4 (v := 1) (by decide) ?_
  refine gx_icmp_ne dX3_isMoved_5 (tgt := 31) (by decide) (fun hc1 => ?_) (fun hc1 => ?_)
  · refine gx_iconst dX3_isMoved_31 (v := 0) (by decide) ?_
    refine gx_ireturn dX3_isMoved_32 ?_
    exact ⟨⟨_, rfl, rfl⟩, rfl, congrArg (fun z => some (Value.int z)) (gs_bf (fun z => hc1 z.1))⟩
  · refine gx_aload_n dX3_isMoved_8 rfl ?_
    refine gx_get dX3_isMoved_9 gf_X3_21 (gs_g3 R ho) (v := .int (nI (σ.1 13 o 0))) (rfl) ?_
    refine gx_aload_n dX3_isMoved_12 rfl ?_
    refine gx_get dX3_isMoved_13 gf_X3_24 (gs_g3 R ho) (v := .int (nI (σ.1 14 o 0))) (rfl) ?_
    refine gx_icmp_eq dX3_isMoved_16 (tgt := 31) (by decide) (fun hc2 => ?_) (fun hc2 => ?_)
    · refine gx_iconst dX3_isMoved_31 (v := 0) (by decide) ?_
      refine gx_ireturn dX3_isMoved_32 ?_
      exact ⟨⟨_, rfl, rfl⟩, rfl, congrArg (fun z => some (Value.int z)) (gs_bf (fun z => z.2.1 ((nI_eq (by have := gw_a W o; omega) (by have := gw_b W o; omega)).mp hc2)))⟩
    · refine gx_iload_n dX3_isMoved_19 rfl ?_
      refine gx_aload_n dX3_isMoved_20 rfl ?_
      refine gx_get dX3_isMoved_21 gf_X3_27 (gs_g3 R ho) (v := .int (σ.2.1 1 o 0)) (rfl) ?_
      refine gx_icmp_lt dX3_isMoved_24 (tgt := 31) (by decide) (fun hc3 => ?_) (fun hc3 => ?_)
      · refine gx_iconst dX3_isMoved_31 (v := 0) (by decide) ?_
        refine gx_ireturn dX3_isMoved_32 ?_
        exact ⟨⟨_, rfl, rfl⟩, rfl, congrArg (fun z => some (Value.int z)) (gs_bf (fun z => z.2.2 hc3))⟩
      · refine gx_iconst dX3_isMoved_27 (v := 1) (by decide) ?_
        refine gx_goto dX3_isMoved_28 (tgt := 32) (by decide) ?_
        refine gx_ireturn dX3_isMoved_32 ?_
        exact ⟨⟨_, rfl, rfl⟩, rfl, congrArg (fun z => some (Value.int z)) (gs_bt (⟨hc1, fun z => hc2 (congrArg nI z), hc3⟩))⟩
set_option maxHeartbeats 4000000 in
theorem cc_X3_behindA {S : gx_S} {h : gx_H} {σ : gs_T} {A : gs_A} (R : gs_R h σ A) (W : gw_W σ) {o : Nat} (ho : σ.1 11 o 0 = 1) (u v : Int32) : gx_Cn S gm_X3_behindA 2 [.ref (A 3 o 0), .int u, .int v] h (fun r h' => h' = h ∧ r = some (.int (sc_bA σ o u v))) := by
  refine gx_Cn.of gt_X3_behindA (by simp [Value.category]) (Nat.le_of_ble_eq_true rfl) ?_
  show gx_Ev S gm_X3_behindA 2 0 [some (.ref (A 3 o 0)), some (.int u), some (.int v)] [] h _
  refine gx_aload_n dX3_behindA_0 rfl ?_
  refine gx_get dX3_behindA_1 gf_X3_18 (gs_g3 R ho) (v := .int (σ.2.1 0 o 0)) (rfl) ?_
  refine gx_if_ne dX3_behindA_4 (tgt := 14) (by decide) (fun hc1 => ?_) (fun hc1 => ?_)
  · refine gx_aload_n dX3_behindA_14 rfl ?_
    refine gx_get dX3_behindA_15 gf_X3_18 (gs_g3 R ho) (v := .int (σ.2.1 0 o 0)) (rfl) ?_
    refine gx_iconst dX3_behindA_18 (v := 3) (by decide) ?_
    refine gx_icmp_ne dX3_behindA_19 (tgt := 24) (by decide) (fun hc2 => ?_) (fun hc2 => ?_)
    · refine gx_aload_n dX3_behindA_24 rfl ?_
      refine gx_iload_n dX3_behindA_25 rfl ?_
      refine gx_invV dX3_behindA_26 wm_X3_30 gt_X3_isMoved wy_X3_isMoved wl_X3_isMoved (ci := 3) rfl rfl (gs_g3 R ho) (As := [.int u]) (rest := []) rfl rfl (Nat.le_of_ble_eq_true rfl) (by decide) (cc_X3_isMoved R W ho u) (fun r1 h q1 => ?_)
      obtain ⟨rfl, rfl⟩ := q1
      show gx_Ev _ _ _ _ _ [.int (gs_bi (sc_mv σ o u))] _ _
      refine gx_if_eq dX3_behindA_29 (tgt := 41) (by decide) (fun hc3 => ?_) (fun hc3 => ?_)
      · have hc3 := gs_b0 hc3
        refine gx_iload_n dX3_behindA_41 rfl ?_
        refine gx_ireturn dX3_behindA_42 ?_
        exact ⟨⟨_, rfl, rfl⟩, rfl, by simp [sc_bA, hc1, hc2, hc3]⟩
      · have hc3 := gs_b1 hc3
        refine gx_iload_n dX3_behindA_32 rfl ?_
        refine gx_aload_n dX3_behindA_33 rfl ?_
        refine gx_get dX3_behindA_34 gf_X3_27 (gs_g3 R ho) (v := .int (σ.2.1 1 o 0)) (rfl) ?_
        refine gx_isub dX3_behindA_37 ?_
        refine gx_goto dX3_behindA_38 (tgt := 42) (by decide) ?_
        refine gx_ireturn dX3_behindA_42 ?_
        exact ⟨⟨_, rfl, rfl⟩, rfl, by simp [sc_bA, hc1, hc2, hc3]⟩
    · refine gx_iload_n dX3_behindA_22 rfl ?_
      refine gx_ireturn dX3_behindA_23 ?_
      exact ⟨⟨_, rfl, rfl⟩, rfl, by simp [sc_bA, hc1, hc2]⟩
  · refine gx_iload_n dX3_behindA_7 rfl ?_
    refine gx_aload_n dX3_behindA_8 rfl ?_
    refine gx_get dX3_behindA_9 gf_X3_27 (gs_g3 R ho) (v := .int (σ.2.1 1 o 0)) (rfl) ?_
    refine gx_iadd dX3_behindA_12 ?_
    refine gx_ireturn dX3_behindA_13 ?_
    exact ⟨⟨_, rfl, rfl⟩, rfl, by simp [sc_bA, hc1]⟩
set_option maxHeartbeats 4000000 in
theorem cc_X3_behindB {S : gx_S} {h : gx_H} {σ : gs_T} {A : gs_A} (R : gs_R h σ A) (W : gw_W σ) {o : Nat} (ho : σ.1 11 o 0 = 1) (u v : Int32) : gx_Cn S gm_X3_behindB 2 [.ref (A 3 o 0), .int u, .int v] h (fun r h' => h' = h ∧ r = some (.int (sc_bB σ o u v))) := by
  refine gx_Cn.of gt_X3_behindB (by simp [Value.category]) (Nat.le_of_ble_eq_true rfl) ?_
  show gx_Ev S gm_X3_behindB 2 0 [some (.ref (A 3 o 0)), some (.int u), some (.int v)] [] h _
  refine gx_aload_n dX3_behindB_0 rfl ?_
  refine gx_get dX3_behindB_1 gf_X3_18 (gs_g3 R ho) (v := .int (σ.2.1 0 o 0)) (rfl) ?_
  refine gx_iconst dX3_behindB_4 (v := 3) (by decide) ?_
  refine gx_icmp_ne dX3_behindB_5 (tgt := 10) (by decide) (fun hc1 => ?_) (fun hc1 => ?_)
  · refine gx_aload_n dX3_behindB_10 rfl ?_
    refine gx_iload_n dX3_behindB_11 rfl ?_
    refine gx_invV dX3_behindB_12 wm_X3_30 gt_X3_isMoved wy_X3_isMoved wl_X3_isMoved (ci := 3) rfl rfl (gs_g3 R ho) (As := [.int u]) (rest := []) rfl rfl (Nat.le_of_ble_eq_true rfl) (by decide) (cc_X3_isMoved R W ho u) (fun r1 h q1 => ?_)
    obtain ⟨rfl, rfl⟩ := q1
    show gx_Ev _ _ _ _ _ [.int (gs_bi (sc_mv σ o u))] _ _
    refine gx_if_eq dX3_behindB_15 (tgt := 27) (by decide) (fun hc2 => ?_) (fun hc2 => ?_)
    · have hc2 := gs_b0 hc2
      refine gx_iload_n dX3_behindB_27 rfl ?_
      refine gx_ireturn dX3_behindB_28 ?_
      exact ⟨⟨_, rfl, rfl⟩, rfl, by simp [sc_bB, hc1, hc2]⟩
    · have hc2 := gs_b1 hc2
      refine gx_iload_n dX3_behindB_18 rfl ?_
      refine gx_aload_n dX3_behindB_19 rfl ?_
      refine gx_get dX3_behindB_20 gf_X3_27 (gs_g3 R ho) (v := .int (σ.2.1 1 o 0)) (rfl) ?_
      refine gx_iadd dX3_behindB_23 ?_
      refine gx_goto dX3_behindB_24 (tgt := 28) (by decide) ?_
      refine gx_ireturn dX3_behindB_28 ?_
      exact ⟨⟨_, rfl, rfl⟩, rfl, by simp [sc_bB, hc1, hc2]⟩
  · refine gx_iload_n dX3_behindB_8 rfl ?_
    refine gx_ireturn dX3_behindB_9 ?_
    exact ⟨⟨_, rfl, rfl⟩, rfl, by simp [sc_bB, hc1]⟩
set_option maxHeartbeats 4000000 in
theorem cc_X3_reply {S : gx_S} {h : gx_H} {σ : gs_T} {A : gs_A} (R : gs_R h σ A) (W : gw_W σ) {o : Nat} (ho : σ.1 11 o 0 = 1) (u v : Int32) : gx_Cn S gm_X3_reply 3 [.ref (A 3 o 0), .int u, .int v] h (fun r h' => h' = h ∧ r = some (.int (sc_rp σ o u v))) := by
  refine gx_Cn.of gt_X3_reply (by simp [Value.category]) (Nat.le_of_ble_eq_true rfl) ?_
  show gx_Ev S gm_X3_reply 3 0 [some (.ref (A 3 o 0)), some (.int u), some (.int v)] [] h _
  refine gx_aload_n dX3_reply_0 rfl ?_
  refine gx_get dX3_reply_1 gf_X3_18 (gs_g3 R ho) (v := .int (σ.2.1 0 o 0)) (rfl) ?_
  refine gx_iconst dX3_reply_4 (v := 1) (by decide) ?_
  refine gx_icmp_ne dX3_reply_5 (tgt := 22) (by decide) (fun hc1 => ?_) (fun hc1 => ?_)
  · refine gx_aload_n dX3_reply_22 rfl ?_
    refine gx_get dX3_reply_23 gf_X3_18 (gs_g3 R ho) (v := .int (σ.2.1 0 o 0)) (rfl) ?_
    refine gx_iconst dX3_reply_26 (v := 2) (by decide) ?_
    refine gx_icmp_ne dX3_reply_27 (tgt := 36) (by decide) (fun hc2 => ?_) (fun hc2 => ?_)
    · refine gx_aload_n dX3_reply_36 rfl ?_
      refine gx_iload_n dX3_reply_37 rfl ?_
      refine gx_iload_n dX3_reply_38 rfl ?_
      refine gx_invV dX3_reply_39 wm_X3_34 gt_X3_behindA wy_X3_behindA wl_X3_behindA (ci := 3) rfl rfl (gs_g3 R ho) (As := [.int u, .int v]) (rest := []) rfl rfl (Nat.le_of_ble_eq_true rfl) (by decide) (cc_X3_behindA R W ho u v) (fun r1 h q1 => ?_)
      obtain ⟨rfl, rfl⟩ := q1
      show gx_Ev _ _ _ _ _ [.int (sc_bA σ o u v)] _ _
      refine gx_ireturn dX3_reply_42 ?_
      exact ⟨⟨_, rfl, rfl⟩, rfl, by simp [sc_rp, hc1, hc2]⟩
    · refine gx_iload_n dX3_reply_30 rfl ?_
      refine gx_iload_n dX3_reply_31 rfl ?_
      refine gx_iadd dX3_reply_32 ?_
      refine gx_goto dX3_reply_33 (tgt := 42) (by decide) ?_
      refine gx_ireturn dX3_reply_42 ?_
      exact ⟨⟨_, rfl, rfl⟩, rfl, by simp [sc_rp, hc1, hc2]⟩
  · refine gx_iload_n dX3_reply_8 rfl ?_
    refine gx_aload_n dX3_reply_9 rfl ?_
    refine gx_get dX3_reply_10 gf_X3_27 (gs_g3 R ho) (v := .int (σ.2.1 1 o 0)) (rfl) ?_
    refine gx_icmp_lt dX3_reply_13 (tgt := 20) (by decide) (fun hc3 => ?_) (fun hc3 => ?_)
    · refine gx_iconst dX3_reply_20 (v := 0) (by decide) ?_
      refine gx_ireturn dX3_reply_21 ?_
      exact ⟨⟨_, rfl, rfl⟩, rfl, by simp [sc_rp, hc1, hc3]⟩
    · refine gx_iconst dX3_reply_16 (v := 1) (by decide) ?_
      refine gx_goto dX3_reply_17 (tgt := 21) (by decide) ?_
      refine gx_ireturn dX3_reply_21 ?_
      exact ⟨⟨_, rfl, rfl⟩, rfl, by simp [sc_rp, hc1, hc3]⟩
