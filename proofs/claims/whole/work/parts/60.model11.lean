/-! the reference: agree, doneCount, count -/
abbrev sm_ac (σ : gs_T) (g j : Nat) : Prop := σ.2.1 115 (40 * g + σ.1 124 (40 * g + j) 0) 0 < σ.2.1 115 (40 * g + σ.1 124 (40 * g + (j + 1)) 0) 0 ∨ (σ.2.1 115 (40 * g + σ.1 124 (40 * g + j) 0) 0 = σ.2.1 115 (40 * g + σ.1 124 (40 * g + (j + 1)) 0) 0 ∧ σ.1 124 (40 * g + j) 0 < σ.1 124 (40 * g + (j + 1)) 0)
def sm_ai (σ : gs_T) (g m j : Nat) (x : Int32) : Int32 := match m with
  | 0 => x
  | m + 1 => sm_ai σ g m (j + 1) (if x = 0 then 0 else if sm_ac σ g j then 1 else 0)
def sm_ag (σ : gs_T) (m g : Nat) (x : Int32) : Int32 := match m with
  | 0 => x
  | m + 1 => sm_ag σ m (g + 1) (sm_ai σ g (σ.1 123 g 0 - 1) 0 x)
set_option maxHeartbeats 4000000 in
theorem cl_ag_in {S : gx_S} {h : gx_H} {σ : gs_T} {A : gs_A} (R : gs_R h σ A) (hm : σ.1 31 0 0 = 1) (V : gv_V σ) {g : Nat} (hg4 : g < 4) {Q : Option Value → gx_H → Prop} : ∀ (m j : Nat) (x : Int32) (w4 w5 : Option Value), j ≤ 40 → σ.1 123 g 0 - (j + 1) = m → gx_ok [none, none, none, none, w4] 5 = true → (∀ w3 w4 w5, gx_ok [none, none, none, none, w4] 5 = true → gx_Ev S gm_X6_agree 2 123 [some (.ref (A 6 0 0)), some (.int (sm_ai σ g m j x)), some (.int (nI g)), (some (.int w3)), w4, w5] [] h Q) → gx_Ev S gm_X6_agree 2 14 [some (.ref (A 6 0 0)), some (.int x), some (.int (nI g)), some (.int (nI (j + 1))), w4, w5] [] h Q := by
  intro m
  induction m with
  | zero =>
    intro j x w4 w5 hj40 hm9 g4 K
    have h40 := gv_tc V g
    refine gx_iload_n dX6_agree_14 rfl ?_
    refine gx_aload_n dX6_agree_15 rfl ?_
    refine gx_get dX6_agree_16 gf_X6_74 (gs_g6 R hm) (v := .ref (A 43 0 0)) (rfl) ?_
    refine gx_iload_n dX6_agree_19 rfl ?_
    refine gq_43 dX6_agree_20 R hm (q := g) (rfl) (by omega) (v := nI (σ.1 123 g 0)) (rfl) ?_
    refine gx_icmp_ge dX6_agree_21 (tgt := 123) (by decide) (fun hc1 => ?_) (fun hc1 => absurd hc1 (fun z => z (nI_le (by omega) (by omega))))
    exact K _ _ _ g4
  | succ m ih =>
    intro j x w4 w5 hj40 hm9 g4 K
    have h40 := gv_tc V g
    have h1 := gv_tr V (40 * g + j)
    have h2 := gv_tr V (40 * g + (j + 1))
    refine gx_iload_n dX6_agree_14 rfl ?_
    refine gx_aload_n dX6_agree_15 rfl ?_
    refine gx_get dX6_agree_16 gf_X6_74 (gs_g6 R hm) (v := .ref (A 43 0 0)) (rfl) ?_
    refine gx_iload_n dX6_agree_19 rfl ?_
    refine gq_43 dX6_agree_20 R hm (q := g) (rfl) (by omega) (v := nI (σ.1 123 g 0)) (rfl) ?_
    refine gx_icmp_ge dX6_agree_21 (tgt := 123) (by decide) (fun hc0 => absurd hc0 (nI_ge (by omega) (by omega))) (fun hc0 => ?_)
    refine gx_aload_n dX6_agree_24 rfl ?_
    refine gx_get dX6_agree_25 gf_X6_77 (gs_g6 R hm) (v := .ref (A 44 0 0)) (rfl) ?_
    refine gx_iload_n dX6_agree_28 rfl ?_
    refine gx_iload_n dX6_agree_29 rfl ?_
    refine gx_invS dX6_agree_30 wm_X6_105 gt_X6_at ws_X6_at (As := [.int (nI g), .int (nI (j + 1))]) (rest := [.ref (A 44 0 0)]) rfl rfl (Nat.le_of_ble_eq_true rfl) (by decide) (cc_X6_atE (g := g) (o := j + 1) (rfl) (rfl)) (fun r1 h q1 => ?_)
    obtain ⟨rfl, rfl⟩ := q1
    show gx_Ev _ _ _ _ _ [.int (nI (40 * g + (j + 1))), .ref (A 44 0 0)] _ _
    refine gq_44 dX6_agree_33 R hm (q := 40 * g + (j + 1)) (rfl) (by omega) (v := nI (σ.1 124 (40 * g + (j + 1)) 0)) (rfl) ?_
    refine gx_istore dX6_agree_34 (by decide) rfl (L' := [some (.ref (A 6 0 0)), some (.int x), some (.int (nI g)), some (.int (nI (j + 1))), some (.int (nI (σ.1 124 (40 * g + (j + 1)) 0))), w5]) rfl ?_
    refine gx_aload_n dX6_agree_36 rfl ?_
    refine gx_get dX6_agree_37 gf_X6_77 (gs_g6 R hm) (v := .ref (A 44 0 0)) (rfl) ?_
    refine gx_iload_n dX6_agree_40 rfl ?_
    refine gx_iload_n dX6_agree_41 rfl ?_
    refine gx_iconst dX6_agree_42 (v := 1) (by decide) ?_
    refine gx_isub dX6_agree_43 ?_
    rw [show ((nI (j + 1)) - 1 : Int32) = nI j from nI_pred _]
    refine gx_invS dX6_agree_44 wm_X6_105 gt_X6_at ws_X6_at (As := [.int (nI g), .int (nI j)]) (rest := [.ref (A 44 0 0)]) rfl rfl (Nat.le_of_ble_eq_true rfl) (by decide) (cc_X6_atE (g := g) (o := j) (rfl) (rfl)) (fun r1 h q1 => ?_)
    obtain ⟨rfl, rfl⟩ := q1
    show gx_Ev _ _ _ _ _ [.int (nI (40 * g + j)), .ref (A 44 0 0)] _ _
    refine gq_44 dX6_agree_47 R hm (q := 40 * g + j) (rfl) (by omega) (v := nI (σ.1 124 (40 * g + j) 0)) (rfl) ?_
    refine gx_istore dX6_agree_48 (by decide) rfl (L' := [some (.ref (A 6 0 0)), some (.int x), some (.int (nI g)), some (.int (nI (j + 1))), some (.int (nI (σ.1 124 (40 * g + (j + 1)) 0))), some (.int (nI (σ.1 124 (40 * g + j) 0)))]) rfl ?_
    refine gx_iload_n dX6_agree_50 rfl ?_
    refine gx_if_eq dX6_agree_51 (tgt := 115) (by decide) (fun hx => ?_) (fun hx => ?_)
    · refine gx_iconst dX6_agree_115 (v := 0) (by decide) ?_
      refine gx_istore_n dX6_agree_116 (by decide) rfl (L' := [some (.ref (A 6 0 0)), some (.int 0), some (.int (nI g)), some (.int (nI (j + 1))), some (.int (nI (σ.1 124 (40 * g + (j + 1)) 0))), some (.int (nI (σ.1 124 (40 * g + j) 0)))]) rfl ?_
      refine gx_iinc dX6_agree_117 rfl (v := nI (j + 1 + 1)) (nI_1 _) (by decide) rfl (L' := [some (.ref (A 6 0 0)), some (.int 0), some (.int (nI g)), some (.int (nI (j + 1 + 1))), some (.int (nI (σ.1 124 (40 * g + (j + 1)) 0))), some (.int (nI (σ.1 124 (40 * g + j) 0)))]) rfl ?_
      refine gx_goto dX6_agree_120 (tgt := 14) (by decide) ?_
      have e9 : (if x = 0 then (0 : Int32) else if sm_ac σ g j then 1 else 0) = 0 := by rw [if_pos hx]
      rw [show sm_ai σ g (m + 1) j x = sm_ai σ g m (j + 1) 0 from by rw [sm_ai, e9]] at K
      exact ih (j + 1) 0 (some (.int (nI (σ.1 124 (40 * g + (j + 1)) 0)))) (some (.int (nI (σ.1 124 (40 * g + j) 0)))) (by omega) (by omega) rfl K
    · refine gx_aload_n dX6_agree_54 rfl ?_
      refine gx_get dX6_agree_55 gf_X6_50 (gs_g6 R hm) (v := .ref (A 35 0 0)) (rfl) ?_
      refine gx_iload_n dX6_agree_58 rfl ?_
      refine gx_iload dX6_agree_59 rfl ?_
      refine gx_invS dX6_agree_61 wm_X6_105 gt_X6_at ws_X6_at (As := [.int (nI g), .int (nI (σ.1 124 (40 * g + j) 0))]) (rest := [.ref (A 35 0 0)]) rfl rfl (Nat.le_of_ble_eq_true rfl) (by decide) (cc_X6_atE (g := g) (o := σ.1 124 (40 * g + j) 0) (rfl) (rfl)) (fun r1 h q1 => ?_)
      obtain ⟨rfl, rfl⟩ := q1
      show gx_Ev _ _ _ _ _ [.int (nI (40 * g + (σ.1 124 (40 * g + j) 0))), .ref (A 35 0 0)] _ _
      refine gq_35 dX6_agree_64 R hm (q := 40 * g + (σ.1 124 (40 * g + j) 0)) (rfl) (by omega) (v := σ.2.1 115 (40 * g + (σ.1 124 (40 * g + j) 0)) 0) (rfl) ?_
      refine gx_aload_n dX6_agree_65 rfl ?_
      refine gx_get dX6_agree_66 gf_X6_50 (gs_g6 R hm) (v := .ref (A 35 0 0)) (rfl) ?_
      refine gx_iload_n dX6_agree_69 rfl ?_
      refine gx_iload dX6_agree_70 rfl ?_
      refine gx_invS dX6_agree_72 wm_X6_105 gt_X6_at ws_X6_at (As := [.int (nI g), .int (nI (σ.1 124 (40 * g + (j + 1)) 0))]) (rest := [.ref (A 35 0 0), .int (σ.2.1 115 (40 * g + (σ.1 124 (40 * g + j) 0)) 0)]) rfl rfl (Nat.le_of_ble_eq_true rfl) (by decide) (cc_X6_atE (g := g) (o := σ.1 124 (40 * g + (j + 1)) 0) (rfl) (rfl)) (fun r1 h q1 => ?_)
      obtain ⟨rfl, rfl⟩ := q1
      show gx_Ev _ _ _ _ _ [.int (nI (40 * g + (σ.1 124 (40 * g + (j + 1)) 0))), .ref (A 35 0 0), .int (σ.2.1 115 (40 * g + (σ.1 124 (40 * g + j) 0)) 0)] _ _
      refine gq_35 dX6_agree_75 R hm (q := 40 * g + (σ.1 124 (40 * g + (j + 1)) 0)) (rfl) (by omega) (v := σ.2.1 115 (40 * g + (σ.1 124 (40 * g + (j + 1)) 0)) 0) (rfl) ?_
      refine gx_icmp_lt dX6_agree_76 (tgt := 111) (by decide) (fun h5 => ?_) (fun h5 => ?_)
      · refine gx_iconst dX6_agree_111 (v := 1) (by decide) ?_
        refine gx_goto dX6_agree_112 (tgt := 116) (by decide) ?_
        refine gx_istore_n dX6_agree_116 (by decide) rfl (L' := [some (.ref (A 6 0 0)), some (.int 1), some (.int (nI g)), some (.int (nI (j + 1))), some (.int (nI (σ.1 124 (40 * g + (j + 1)) 0))), some (.int (nI (σ.1 124 (40 * g + j) 0)))]) rfl ?_
        refine gx_iinc dX6_agree_117 rfl (v := nI (j + 1 + 1)) (nI_1 _) (by decide) rfl (L' := [some (.ref (A 6 0 0)), some (.int 1), some (.int (nI g)), some (.int (nI (j + 1 + 1))), some (.int (nI (σ.1 124 (40 * g + (j + 1)) 0))), some (.int (nI (σ.1 124 (40 * g + j) 0)))]) rfl ?_
        refine gx_goto dX6_agree_120 (tgt := 14) (by decide) ?_
        have e9 : (if x = 0 then (0 : Int32) else if sm_ac σ g j then 1 else 0) = 1 := by rw [if_neg hx, if_pos (Or.inl h5)]
        rw [show sm_ai σ g (m + 1) j x = sm_ai σ g m (j + 1) 1 from by rw [sm_ai, e9]] at K
        exact ih (j + 1) 1 (some (.int (nI (σ.1 124 (40 * g + (j + 1)) 0)))) (some (.int (nI (σ.1 124 (40 * g + j) 0)))) (by omega) (by omega) rfl K
      · refine gx_aload_n dX6_agree_79 rfl ?_
        refine gx_get dX6_agree_80 gf_X6_50 (gs_g6 R hm) (v := .ref (A 35 0 0)) (rfl) ?_
        refine gx_iload_n dX6_agree_83 rfl ?_
        refine gx_iload dX6_agree_84 rfl ?_
        refine gx_invS dX6_agree_86 wm_X6_105 gt_X6_at ws_X6_at (As := [.int (nI g), .int (nI (σ.1 124 (40 * g + j) 0))]) (rest := [.ref (A 35 0 0)]) rfl rfl (Nat.le_of_ble_eq_true rfl) (by decide) (cc_X6_atE (g := g) (o := σ.1 124 (40 * g + j) 0) (rfl) (rfl)) (fun r1 h q1 => ?_)
        obtain ⟨rfl, rfl⟩ := q1
        show gx_Ev _ _ _ _ _ [.int (nI (40 * g + (σ.1 124 (40 * g + j) 0))), .ref (A 35 0 0)] _ _
        refine gq_35 dX6_agree_89 R hm (q := 40 * g + (σ.1 124 (40 * g + j) 0)) (rfl) (by omega) (v := σ.2.1 115 (40 * g + (σ.1 124 (40 * g + j) 0)) 0) (rfl) ?_
        refine gx_aload_n dX6_agree_90 rfl ?_
        refine gx_get dX6_agree_91 gf_X6_50 (gs_g6 R hm) (v := .ref (A 35 0 0)) (rfl) ?_
        refine gx_iload_n dX6_agree_94 rfl ?_
        refine gx_iload dX6_agree_95 rfl ?_
        refine gx_invS dX6_agree_97 wm_X6_105 gt_X6_at ws_X6_at (As := [.int (nI g), .int (nI (σ.1 124 (40 * g + (j + 1)) 0))]) (rest := [.ref (A 35 0 0), .int (σ.2.1 115 (40 * g + (σ.1 124 (40 * g + j) 0)) 0)]) rfl rfl (Nat.le_of_ble_eq_true rfl) (by decide) (cc_X6_atE (g := g) (o := σ.1 124 (40 * g + (j + 1)) 0) (rfl) (rfl)) (fun r1 h q1 => ?_)
        obtain ⟨rfl, rfl⟩ := q1
        show gx_Ev _ _ _ _ _ [.int (nI (40 * g + (σ.1 124 (40 * g + (j + 1)) 0))), .ref (A 35 0 0), .int (σ.2.1 115 (40 * g + (σ.1 124 (40 * g + j) 0)) 0)] _ _
        refine gq_35 dX6_agree_100 R hm (q := 40 * g + (σ.1 124 (40 * g + (j + 1)) 0)) (rfl) (by omega) (v := σ.2.1 115 (40 * g + (σ.1 124 (40 * g + (j + 1)) 0)) 0) (rfl) ?_
        refine gx_icmp_ne dX6_agree_101 (tgt := 115) (by decide) (fun h6 => ?_) (fun h6 => ?_)
        · refine gx_iconst dX6_agree_115 (v := 0) (by decide) ?_
          refine gx_istore_n dX6_agree_116 (by decide) rfl (L' := [some (.ref (A 6 0 0)), some (.int 0), some (.int (nI g)), some (.int (nI (j + 1))), some (.int (nI (σ.1 124 (40 * g + (j + 1)) 0))), some (.int (nI (σ.1 124 (40 * g + j) 0)))]) rfl ?_
          refine gx_iinc dX6_agree_117 rfl (v := nI (j + 1 + 1)) (nI_1 _) (by decide) rfl (L' := [some (.ref (A 6 0 0)), some (.int 0), some (.int (nI g)), some (.int (nI (j + 1 + 1))), some (.int (nI (σ.1 124 (40 * g + (j + 1)) 0))), some (.int (nI (σ.1 124 (40 * g + j) 0)))]) rfl ?_
          refine gx_goto dX6_agree_120 (tgt := 14) (by decide) ?_
          have e9 : (if x = 0 then (0 : Int32) else if sm_ac σ g j then 1 else 0) = 0 := by rw [if_neg hx, if_neg (fun z => z.elim h5 (fun z => h6 z.1))]
          rw [show sm_ai σ g (m + 1) j x = sm_ai σ g m (j + 1) 0 from by rw [sm_ai, e9]] at K
          exact ih (j + 1) 0 (some (.int (nI (σ.1 124 (40 * g + (j + 1)) 0)))) (some (.int (nI (σ.1 124 (40 * g + j) 0)))) (by omega) (by omega) rfl K
        · refine gx_iload dX6_agree_104 rfl ?_
          refine gx_iload dX6_agree_106 rfl ?_
          refine gx_icmp_ge dX6_agree_108 (tgt := 115) (by decide) (fun h7 => ?_) (fun h7 => ?_)
          · have h7 : ¬ σ.1 124 (40 * g + j) 0 < σ.1 124 (40 * g + (j + 1)) 0 := fun z => nI_ge z (by omega) h7
            refine gx_iconst dX6_agree_115 (v := 0) (by decide) ?_
            refine gx_istore_n dX6_agree_116 (by decide) rfl (L' := [some (.ref (A 6 0 0)), some (.int 0), some (.int (nI g)), some (.int (nI (j + 1))), some (.int (nI (σ.1 124 (40 * g + (j + 1)) 0))), some (.int (nI (σ.1 124 (40 * g + j) 0)))]) rfl ?_
            refine gx_iinc dX6_agree_117 rfl (v := nI (j + 1 + 1)) (nI_1 _) (by decide) rfl (L' := [some (.ref (A 6 0 0)), some (.int 0), some (.int (nI g)), some (.int (nI (j + 1 + 1))), some (.int (nI (σ.1 124 (40 * g + (j + 1)) 0))), some (.int (nI (σ.1 124 (40 * g + j) 0)))]) rfl ?_
            refine gx_goto dX6_agree_120 (tgt := 14) (by decide) ?_
            have e9 : (if x = 0 then (0 : Int32) else if sm_ac σ g j then 1 else 0) = 0 := by rw [if_neg hx, if_neg (fun z => z.elim h5 (fun z => h7 z.2))]
            rw [show sm_ai σ g (m + 1) j x = sm_ai σ g m (j + 1) 0 from by rw [sm_ai, e9]] at K
            exact ih (j + 1) 0 (some (.int (nI (σ.1 124 (40 * g + (j + 1)) 0)))) (some (.int (nI (σ.1 124 (40 * g + j) 0)))) (by omega) (by omega) rfl K
          · have h7 : σ.1 124 (40 * g + j) 0 < σ.1 124 (40 * g + (j + 1)) 0 := Nat.lt_of_not_le (fun z => h7 (nI_le z (by omega)))
            refine gx_iconst dX6_agree_111 (v := 1) (by decide) ?_
            refine gx_goto dX6_agree_112 (tgt := 116) (by decide) ?_
            refine gx_istore_n dX6_agree_116 (by decide) rfl (L' := [some (.ref (A 6 0 0)), some (.int 1), some (.int (nI g)), some (.int (nI (j + 1))), some (.int (nI (σ.1 124 (40 * g + (j + 1)) 0))), some (.int (nI (σ.1 124 (40 * g + j) 0)))]) rfl ?_
            refine gx_iinc dX6_agree_117 rfl (v := nI (j + 1 + 1)) (nI_1 _) (by decide) rfl (L' := [some (.ref (A 6 0 0)), some (.int 1), some (.int (nI g)), some (.int (nI (j + 1 + 1))), some (.int (nI (σ.1 124 (40 * g + (j + 1)) 0))), some (.int (nI (σ.1 124 (40 * g + j) 0)))]) rfl ?_
            refine gx_goto dX6_agree_120 (tgt := 14) (by decide) ?_
            have e9 : (if x = 0 then (0 : Int32) else if sm_ac σ g j then 1 else 0) = 1 := by rw [if_neg hx, if_pos (Or.inr ⟨h6, h7⟩)]
            rw [show sm_ai σ g (m + 1) j x = sm_ai σ g m (j + 1) 1 from by rw [sm_ai, e9]] at K
            exact ih (j + 1) 1 (some (.int (nI (σ.1 124 (40 * g + (j + 1)) 0)))) (some (.int (nI (σ.1 124 (40 * g + j) 0)))) (by omega) (by omega) rfl K
theorem sm_ai_b (σ : gs_T) (g m j : Nat) {x : Int32} (hx : x = 0 ∨ x = 1) : sm_ai σ g m j x = 0 ∨ sm_ai σ g m j x = 1 := by
  induction m generalizing j x with
  | zero => exact hx
  | succ m ih =>
    rw [sm_ai]
    apply ih
    split
    · exact Or.inl rfl
    · split
      · exact Or.inr rfl
      · exact Or.inl rfl
set_option maxHeartbeats 4000000 in
theorem cl_ag {S : gx_S} {h : gx_H} {σ : gs_T} {A : gs_A} (R : gs_R h σ A) (hm : σ.1 31 0 0 = 1) (V : gv_V σ) : ∀ (m g : Nat) (x : Int32) (w3 w4 w5 : Option Value), g + m = σ.1 100 0 0 → (x = 0 ∨ x = 1) → gx_ok [none, none, none, none, w4] 5 = true → gx_ok [none, none, none, w3] 4 = true → gx_Ev S gm_X6_agree 2 4 [some (.ref (A 6 0 0)), some (.int x), some (.int (nI g)), w3, w4, w5] [] h (fun r h' => gx_rt (some .boolean) r ∧ h' = h ∧ r = some (.int (sm_ag σ m g x))) := by
  intro m
  induction m with
  | zero =>
    intro g x w3 w4 w5 hgm hx g4 g3
    have h40 := gv_n4 V
    refine gx_iload_n dX6_agree_4 rfl ?_
    refine gx_aload_n dX6_agree_5 rfl ?_
    refine gx_get dX6_agree_6 gf_X6_101 (gs_g6 R hm) (v := .int (nI (σ.1 100 0 0))) (rfl) ?_
    refine gx_icmp_ge dX6_agree_9 (tgt := 129) (by decide) (fun hc1 => ?_) (fun hc1 => absurd hc1 (fun z => z (nI_le (by omega) (by omega))))
    refine gx_iload_n dX6_agree_129 rfl ?_
    refine gx_ireturn dX6_agree_130 ?_
    exact ⟨⟨.boolean, rfl, by rcases hx with rfl | rfl <;> rfl⟩, rfl, rfl⟩
  | succ m ih =>
    intro g x w3 w4 w5 hgm hx g4 g3
    have h40 := gv_n4 V
    refine gx_iload_n dX6_agree_4 rfl ?_
    refine gx_aload_n dX6_agree_5 rfl ?_
    refine gx_get dX6_agree_6 gf_X6_101 (gs_g6 R hm) (v := .int (nI (σ.1 100 0 0))) (rfl) ?_
    refine gx_icmp_ge dX6_agree_9 (tgt := 129) (by decide) (fun hc0 => absurd hc0 (nI_ge (by omega) (by omega))) (fun hc0 => ?_)
    refine gx_iconst dX6_agree_12 (v := 1) (by decide) ?_
    refine gx_istore_n dX6_agree_13 (by decide) rfl (L' := [some (.ref (A 6 0 0)), some (.int x), some (.int (nI g)), some (.int 1), w4, w5]) rfl ?_
    refine cl_ag_in R hm V (by omega) (σ.1 123 g 0 - 1) 0 x w4 w5 (by omega) rfl g4 (fun v3 w4 w5 g4 => ?_)
    refine gx_iinc dX6_agree_123 rfl (v := nI (g + 1)) (nI_1 _) (by decide) rfl (L' := [some (.ref (A 6 0 0)), some (.int (sm_ai σ g (σ.1 123 g 0 - 1) 0 x)), some (.int (nI (g + 1))), (some (.int v3)), w4, w5]) rfl ?_
    refine gx_goto dX6_agree_126 (tgt := 4) (by decide) ?_
    exact ih (g + 1) _ _ _ _ (by omega) (sm_ai_b σ g _ 0 hx) g4 rfl
set_option maxHeartbeats 4000000 in
theorem cc_X6_agree {S : gx_S} {h : gx_H} {σ : gs_T} {A : gs_A} (R : gs_R h σ A) (hm : σ.1 31 0 0 = 1) (V : gv_V σ) : gx_Cn S gm_X6_agree 2 [.ref (A 6 0 0)] h (fun r h' => h' = h ∧ r = some (.int (sm_ag σ (σ.1 100 0 0) 0 1))) := by
  refine gx_Cn.of gt_X6_agree (by simp [Value.category]) (Nat.le_of_ble_eq_true rfl) ?_
  show gx_Ev S gm_X6_agree 2 0 [some (.ref (A 6 0 0)), none, none, none, none, none] [] h _
  refine gx_iconst dX6_agree_0 (v := 1) (by decide) ?_
  refine gx_istore_n dX6_agree_1 (by decide) rfl (L' := [some (.ref (A 6 0 0)), some (.int 1), none, none, none, none]) rfl ?_
  refine gx_iconst dX6_agree_2 (v := 0) (by decide) ?_
  refine gx_istore_n dX6_agree_3 (by decide) rfl (L' := [some (.ref (A 6 0 0)), some (.int 1), some (.int 0), none, none, none]) rfl ?_
  exact cl_ag R hm V _ 0 1 none none none (Nat.zero_add _) (Or.inr rfl) rfl rfl
def sm_da (σ : gs_T) (o m q : Nat) (x : Int32) : Int32 := match m with
  | 0 => x
  | m + 1 => sm_da σ o m (q + 1) (if x = 0 then 0 else if gv_of σ q o then (if σ.2.1 118 (40 * q + o) 0 = 0 then 0 else 1) else 1)
def sm_dn (σ : gs_T) (m o : Nat) (c : Int32) : Int32 := match m with
  | 0 => c
  | m + 1 => sm_dn σ m (o + 1) (c + (if sm_da σ o (σ.1 100 0 0) 0 1 = 0 then 0 else 1))
def sm_ca (σ : gs_T) (m o : Nat) (c : Int32) : Int32 := match m with
  | 0 => c
  | m + 1 => sm_ca σ m (o + 1) (c + (if σ.2.1 111 o 0 = 0 then 0 else 1))
set_option maxHeartbeats 4000000 in
theorem cl_dc_in {S : gx_S} {h : gx_H} {σ : gs_T} {A : gs_A} (R : gs_R h σ A) (hm : σ.1 31 0 0 = 1) (V : gv_V σ) {o : Nat} (ho : o < 40) (c : Int32) {Q : Option Value → gx_H → Prop} : ∀ (m q : Nat) (x : Int32), q + m = σ.1 100 0 0 → gx_Ev S gm_X6_doneCount 2 66 [some (.ref (A 6 0 0)), some (.int c), some (.int (nI o)), some (.int (sm_da σ o m q x)), some (.int (nI (q + m)))] [] h Q → gx_Ev S gm_X6_doneCount 2 17 [some (.ref (A 6 0 0)), some (.int c), some (.int (nI o)), some (.int x), some (.int (nI q))] [] h Q := by
  intro m
  induction m with
  | zero =>
    intro q x hm9 K
    have h40 := gv_n4 V
    refine gx_iload dX6_doneCount_17 rfl ?_
    refine gx_aload_n dX6_doneCount_19 rfl ?_
    refine gx_get dX6_doneCount_20 gf_X6_101 (gs_g6 R hm) (v := .int (nI (σ.1 100 0 0))) (rfl) ?_
    refine gx_icmp_ge dX6_doneCount_23 (tgt := 66) (by decide) (fun hc1 => ?_) (fun hc1 => absurd hc1 (fun z => z (nI_le (by omega) (by omega))))
    exact K
  | succ m ih =>
    intro q x hm9 K
    have h40 := gv_n4 V
    refine gx_iload dX6_doneCount_17 rfl ?_
    refine gx_aload_n dX6_doneCount_19 rfl ?_
    refine gx_get dX6_doneCount_20 gf_X6_101 (gs_g6 R hm) (v := .int (nI (σ.1 100 0 0))) (rfl) ?_
    refine gx_icmp_ge dX6_doneCount_23 (tgt := 66) (by decide) (fun hc0 => absurd hc0 (nI_ge (by omega) (by omega))) (fun hc0 => ?_)
    refine gx_iload_n dX6_doneCount_26 rfl ?_
    refine gx_if_eq dX6_doneCount_27 (tgt := 58) (by decide) (fun hx => ?_) (fun hx => ?_)
    · refine gx_iconst dX6_doneCount_58 (v := 0) (by decide) ?_
      refine gx_istore_n dX6_doneCount_59 (by decide) rfl (L' := [some (.ref (A 6 0 0)), some (.int c), some (.int (nI o)), some (.int 0), some (.int (nI q))]) rfl ?_
      refine gx_iinc dX6_doneCount_60 rfl (v := nI (q + 1)) (nI_1 _) (by decide) rfl (L' := [some (.ref (A 6 0 0)), some (.int c), some (.int (nI o)), some (.int 0), some (.int (nI (q + 1)))]) rfl ?_
      refine gx_goto dX6_doneCount_63 (tgt := 17) (by decide) ?_
      have e9 : (if x = 0 then (0 : Int32) else if gv_of σ q o then (if σ.2.1 118 (40 * q + o) 0 = 0 then 0 else 1) else 1) = 0 := by simp [hx]
      rw [show sm_da σ o (m + 1) q x = sm_da σ o m (q + 1) 0 from by rw [sm_da, e9], show q + (m + 1) = q + 1 + m by omega] at K
      exact ih (q + 1) 0 (by omega) K
    · refine gx_aload_n dX6_doneCount_30 rfl ?_
      refine gx_iload dX6_doneCount_31 rfl ?_
      refine gx_iload_n dX6_doneCount_33 rfl ?_
      refine gx_invV dX6_doneCount_34 wm_X6_112 gt_X6_isOf wy_X6_isOf wl_X6_isOf (ci := 6) rfl rfl (gs_g6 R hm) (As := [.int (nI q), .int (nI o)]) (rest := []) rfl rfl (Nat.le_of_ble_eq_true rfl) (by decide) (cc_X6_isOf R hm V (g := q) (o := o) (by omega) (ho)) (fun r1 h q1 => ?_)
      obtain ⟨rfl, rfl⟩ := q1
      show gx_Ev _ _ _ _ _ [.int (gs_bi (gv_of σ q o))] _ _
      refine gx_if_eq dX6_doneCount_37 (tgt := 54) (by decide) (fun h5 => ?_) (fun h5 => ?_)
      · have h5 := gs_b0 h5
        refine gx_iconst dX6_doneCount_54 (v := 1) (by decide) ?_
        refine gx_goto dX6_doneCount_55 (tgt := 59) (by decide) ?_
        refine gx_istore_n dX6_doneCount_59 (by decide) rfl (L' := [some (.ref (A 6 0 0)), some (.int c), some (.int (nI o)), some (.int 1), some (.int (nI q))]) rfl ?_
        refine gx_iinc dX6_doneCount_60 rfl (v := nI (q + 1)) (nI_1 _) (by decide) rfl (L' := [some (.ref (A 6 0 0)), some (.int c), some (.int (nI o)), some (.int 1), some (.int (nI (q + 1)))]) rfl ?_
        refine gx_goto dX6_doneCount_63 (tgt := 17) (by decide) ?_
        have e9 : (if x = 0 then (0 : Int32) else if gv_of σ q o then (if σ.2.1 118 (40 * q + o) 0 = 0 then 0 else 1) else 1) = 1 := by simp [hx, h5]
        rw [show sm_da σ o (m + 1) q x = sm_da σ o m (q + 1) 1 from by rw [sm_da, e9], show q + (m + 1) = q + 1 + m by omega] at K
        exact ih (q + 1) 1 (by omega) K
      · have h5 := gs_b1 h5
        refine gx_aload_n dX6_doneCount_40 rfl ?_
        refine gx_get dX6_doneCount_41 gf_X6_59 (gs_g6 R hm) (v := .ref (A 38 0 0)) (rfl) ?_
        refine gx_iload dX6_doneCount_44 rfl ?_
        refine gx_iload_n dX6_doneCount_46 rfl ?_
        refine gx_invS dX6_doneCount_47 wm_X6_105 gt_X6_at ws_X6_at (As := [.int (nI q), .int (nI o)]) (rest := [.ref (A 38 0 0)]) rfl rfl (Nat.le_of_ble_eq_true rfl) (by decide) (cc_X6_atE (g := q) (o := o) (rfl) (rfl)) (fun r1 h q1 => ?_)
        obtain ⟨rfl, rfl⟩ := q1
        show gx_Ev _ _ _ _ _ [.int (nI (40 * q + o)), .ref (A 38 0 0)] _ _
        refine gq_38 dX6_doneCount_50 R hm (q := 40 * q + o) (rfl) (by omega) (v := σ.2.1 118 (40 * q + o) 0) (rfl) ?_
        refine gx_if_eq dX6_doneCount_51 (tgt := 58) (by decide) (fun h6 => ?_) (fun h6 => ?_)
        · refine gx_iconst dX6_doneCount_58 (v := 0) (by decide) ?_
          refine gx_istore_n dX6_doneCount_59 (by decide) rfl (L' := [some (.ref (A 6 0 0)), some (.int c), some (.int (nI o)), some (.int 0), some (.int (nI q))]) rfl ?_
          refine gx_iinc dX6_doneCount_60 rfl (v := nI (q + 1)) (nI_1 _) (by decide) rfl (L' := [some (.ref (A 6 0 0)), some (.int c), some (.int (nI o)), some (.int 0), some (.int (nI (q + 1)))]) rfl ?_
          refine gx_goto dX6_doneCount_63 (tgt := 17) (by decide) ?_
          have e9 : (if x = 0 then (0 : Int32) else if gv_of σ q o then (if σ.2.1 118 (40 * q + o) 0 = 0 then 0 else 1) else 1) = 0 := by simp [hx, h5, h6]
          rw [show sm_da σ o (m + 1) q x = sm_da σ o m (q + 1) 0 from by rw [sm_da, e9], show q + (m + 1) = q + 1 + m by omega] at K
          exact ih (q + 1) 0 (by omega) K
        · refine gx_iconst dX6_doneCount_54 (v := 1) (by decide) ?_
          refine gx_goto dX6_doneCount_55 (tgt := 59) (by decide) ?_
          refine gx_istore_n dX6_doneCount_59 (by decide) rfl (L' := [some (.ref (A 6 0 0)), some (.int c), some (.int (nI o)), some (.int 1), some (.int (nI q))]) rfl ?_
          refine gx_iinc dX6_doneCount_60 rfl (v := nI (q + 1)) (nI_1 _) (by decide) rfl (L' := [some (.ref (A 6 0 0)), some (.int c), some (.int (nI o)), some (.int 1), some (.int (nI (q + 1)))]) rfl ?_
          refine gx_goto dX6_doneCount_63 (tgt := 17) (by decide) ?_
          have e9 : (if x = 0 then (0 : Int32) else if gv_of σ q o then (if σ.2.1 118 (40 * q + o) 0 = 0 then 0 else 1) else 1) = 1 := by simp [hx, h5, h6]
          rw [show sm_da σ o (m + 1) q x = sm_da σ o m (q + 1) 1 from by rw [sm_da, e9], show q + (m + 1) = q + 1 + m by omega] at K
          exact ih (q + 1) 1 (by omega) K
set_option maxHeartbeats 4000000 in
theorem cl_dc {S : gx_S} {h : gx_H} {σ : gs_T} {A : gs_A} (R : gs_R h σ A) (hm : σ.1 31 0 0 = 1) (V : gv_V σ) : ∀ (m o : Nat) (c : Int32) (w3 w4 : Option Value), o + m = σ.1 104 0 0 → gx_Ev S gm_X6_doneCount 2 4 [some (.ref (A 6 0 0)), some (.int c), some (.int (nI o)), w3, w4] [] h (fun r h' => gx_rt (some .int) r ∧ h' = h ∧ r = some (.int (sm_dn σ m o c))) := by
  intro m
  induction m with
  | zero =>
    intro o c w3 w4 hgm
    have h40 := gv_cnt V
    refine gx_iload_n dX6_doneCount_4 rfl ?_
    refine gx_aload_n dX6_doneCount_5 rfl ?_
    refine gx_get dX6_doneCount_6 gf_X6_124 (gs_g6 R hm) (v := .int (nI (σ.1 104 0 0))) (rfl) ?_
    refine gx_icmp_ge dX6_doneCount_9 (tgt := 84) (by decide) (fun hc1 => ?_) (fun hc1 => absurd hc1 (fun z => z (nI_le (by omega) (by omega))))
    refine gx_iload_n dX6_doneCount_84 rfl ?_
    refine gx_ireturn dX6_doneCount_85 ?_
    exact ⟨⟨_, rfl, rfl⟩, rfl, rfl⟩
  | succ m ih =>
    intro o c w3 w4 hgm
    have h40 := gv_cnt V
    have ho : o < 40 := by omega
    refine gx_iload_n dX6_doneCount_4 rfl ?_
    refine gx_aload_n dX6_doneCount_5 rfl ?_
    refine gx_get dX6_doneCount_6 gf_X6_124 (gs_g6 R hm) (v := .int (nI (σ.1 104 0 0))) (rfl) ?_
    refine gx_icmp_ge dX6_doneCount_9 (tgt := 84) (by decide) (fun hc0 => absurd hc0 (nI_ge (by omega) (by omega))) (fun hc0 => ?_)
    refine gx_iconst dX6_doneCount_12 (v := 1) (by decide) ?_
    refine gx_istore_n dX6_doneCount_13 (by decide) rfl (L' := [some (.ref (A 6 0 0)), some (.int c), some (.int (nI o)), some (.int 1), w4]) rfl ?_
    refine gx_iconst dX6_doneCount_14 (v := 0) (by decide) ?_
    refine gx_istore dX6_doneCount_15 (by decide) rfl (L' := [some (.ref (A 6 0 0)), some (.int c), some (.int (nI o)), some (.int 1), some (.int 0)]) rfl ?_
    refine cl_dc_in R hm V ho c _ 0 1 (Nat.zero_add _) ?_
    refine gx_iload_n dX6_doneCount_66 rfl ?_
    refine gx_iload_n dX6_doneCount_67 rfl ?_
    refine gx_if_eq dX6_doneCount_68 (tgt := 75) (by decide) (fun hd => ?_) (fun hd => ?_)
    · refine gx_iconst dX6_doneCount_75 (v := 0) (by decide) ?_
      refine gx_iadd dX6_doneCount_76 ?_
      refine gx_istore_n dX6_doneCount_77 (by decide) rfl (L' := [some (.ref (A 6 0 0)), some (.int (c + 0)), some (.int (nI o)), some (.int (sm_da σ o (σ.1 100 0 0) 0 1)), some (.int (nI (0 + σ.1 100 0 0)))]) rfl ?_
      refine gx_iinc dX6_doneCount_78 rfl (v := nI (o + 1)) (nI_1 _) (by decide) rfl (L' := [some (.ref (A 6 0 0)), some (.int (c + 0)), some (.int (nI (o + 1))), some (.int (sm_da σ o (σ.1 100 0 0) 0 1)), some (.int (nI (0 + σ.1 100 0 0)))]) rfl ?_
      refine gx_goto dX6_doneCount_81 (tgt := 4) (by decide) ?_
      rw [show sm_dn σ (m + 1) o c = sm_dn σ m (o + 1) (c + 0) from by rw [sm_dn]; simp [hd]]
      exact ih (o + 1) (c + 0) _ _ (by omega)
    · refine gx_iconst dX6_doneCount_71 (v := 1) (by decide) ?_
      refine gx_goto dX6_doneCount_72 (tgt := 76) (by decide) ?_
      refine gx_iadd dX6_doneCount_76 ?_
      refine gx_istore_n dX6_doneCount_77 (by decide) rfl (L' := [some (.ref (A 6 0 0)), some (.int (c + 1)), some (.int (nI o)), some (.int (sm_da σ o (σ.1 100 0 0) 0 1)), some (.int (nI (0 + σ.1 100 0 0)))]) rfl ?_
      refine gx_iinc dX6_doneCount_78 rfl (v := nI (o + 1)) (nI_1 _) (by decide) rfl (L' := [some (.ref (A 6 0 0)), some (.int (c + 1)), some (.int (nI (o + 1))), some (.int (sm_da σ o (σ.1 100 0 0) 0 1)), some (.int (nI (0 + σ.1 100 0 0)))]) rfl ?_
      refine gx_goto dX6_doneCount_81 (tgt := 4) (by decide) ?_
      rw [show sm_dn σ (m + 1) o c = sm_dn σ m (o + 1) (c + 1) from by rw [sm_dn]; simp [hd]]
      exact ih (o + 1) (c + 1) _ _ (by omega)
set_option maxHeartbeats 4000000 in
theorem cc_X6_doneCount {S : gx_S} {h : gx_H} {σ : gs_T} {A : gs_A} (R : gs_R h σ A) (hm : σ.1 31 0 0 = 1) (V : gv_V σ) : gx_Cn S gm_X6_doneCount 2 [.ref (A 6 0 0)] h (fun r h' => h' = h ∧ r = some (.int (sm_dn σ (σ.1 104 0 0) 0 0))) := by
  refine gx_Cn.of gt_X6_doneCount (by simp [Value.category]) (Nat.le_of_ble_eq_true rfl) ?_
  show gx_Ev S gm_X6_doneCount 2 0 [some (.ref (A 6 0 0)), none, none, none, none] [] h _
  refine gx_iconst dX6_doneCount_0 (v := 0) (by decide) ?_
  refine gx_istore_n dX6_doneCount_1 (by decide) rfl (L' := [some (.ref (A 6 0 0)), some (.int 0), none, none, none]) rfl ?_
  refine gx_iconst dX6_doneCount_2 (v := 0) (by decide) ?_
  refine gx_istore_n dX6_doneCount_3 (by decide) rfl (L' := [some (.ref (A 6 0 0)), some (.int 0), some (.int 0), none, none]) rfl ?_
  exact cl_dc R hm V _ 0 0 none none (Nat.zero_add _)
def sm_count (σ : gs_T) (x : Int32) : Int32 := if x = 0 then nI (σ.1 100 0 0) else if x = 1 then nI (σ.1 104 0 0) else if x = 2 then σ.2.1 133 0 0 else if x = 3 then sm_ca σ (σ.1 104 0 0) 0 0 else if x = 4 then sm_dn σ (σ.1 104 0 0) 0 0 else -1
set_option maxHeartbeats 4000000 in
theorem cl_ct {S : gx_S} {h : gx_H} {σ : gs_T} {A : gs_A} (R : gs_R h σ A) (hm : σ.1 31 0 0 = 1) (V : gv_V σ) (x : Int32) {Q : Option Value → gx_H → Prop} : ∀ (m q : Nat) (c : Int32), q + m = σ.1 104 0 0 → gx_Ev S gm_X6_count 3 35 [some (.ref (A 6 0 0)), some (.int x), some (.int (sm_ca σ m q c)), some (.int (nI (q + m)))] [] h Q → gx_Ev S gm_X6_count 3 4 [some (.ref (A 6 0 0)), some (.int x), some (.int c), some (.int (nI q))] [] h Q := by
  intro m
  induction m with
  | zero =>
    intro q c hm9 K
    have h40 := gv_cnt V
    refine gx_iload_n dX6_count_4 rfl ?_
    refine gx_aload_n dX6_count_5 rfl ?_
    refine gx_get dX6_count_6 gf_X6_124 (gs_g6 R hm) (v := .int (nI (σ.1 104 0 0))) (rfl) ?_
    refine gx_icmp_ge dX6_count_9 (tgt := 35) (by decide) (fun hc1 => ?_) (fun hc1 => absurd hc1 (fun z => z (nI_le (by omega) (by omega))))
    exact K
  | succ m ih =>
    intro q c hm9 K
    have h40 := gv_cnt V
    refine gx_iload_n dX6_count_4 rfl ?_
    refine gx_aload_n dX6_count_5 rfl ?_
    refine gx_get dX6_count_6 gf_X6_124 (gs_g6 R hm) (v := .int (nI (σ.1 104 0 0))) (rfl) ?_
    refine gx_icmp_ge dX6_count_9 (tgt := 35) (by decide) (fun hc0 => absurd hc0 (nI_ge (by omega) (by omega))) (fun hc0 => ?_)
    refine gx_iload_n dX6_count_12 rfl ?_
    refine gx_aload_n dX6_count_13 rfl ?_
    refine gx_get dX6_count_14 gf_X6_38 (gs_g6 R hm) (v := .ref (A 31 0 0)) (rfl) ?_
    refine gx_iload_n dX6_count_17 rfl ?_
    refine gq_31 dX6_count_18 R hm (q := q) (rfl) (by omega) (v := σ.2.1 111 q 0) (rfl) ?_
    refine gx_if_eq dX6_count_19 (tgt := 26) (by decide) (fun hd => ?_) (fun hd => ?_)
    · refine gx_iconst dX6_count_26 (v := 0) (by decide) ?_
      refine gx_iadd dX6_count_27 ?_
      refine gx_istore_n dX6_count_28 (by decide) rfl (L' := [some (.ref (A 6 0 0)), some (.int x), some (.int (c + 0)), some (.int (nI q))]) rfl ?_
      refine gx_iinc dX6_count_29 rfl (v := nI (q + 1)) (nI_1 _) (by decide) rfl (L' := [some (.ref (A 6 0 0)), some (.int x), some (.int (c + 0)), some (.int (nI (q + 1)))]) rfl ?_
      refine gx_goto dX6_count_32 (tgt := 4) (by decide) ?_
      rw [show sm_ca σ (m + 1) q c = sm_ca σ m (q + 1) (c + 0) from by rw [sm_ca]; simp [hd], show q + (m + 1) = q + 1 + m by omega] at K
      exact ih (q + 1) (c + 0) (by omega) K
    · refine gx_iconst dX6_count_22 (v := 1) (by decide) ?_
      refine gx_goto dX6_count_23 (tgt := 27) (by decide) ?_
      refine gx_iadd dX6_count_27 ?_
      refine gx_istore_n dX6_count_28 (by decide) rfl (L' := [some (.ref (A 6 0 0)), some (.int x), some (.int (c + 1)), some (.int (nI q))]) rfl ?_
      refine gx_iinc dX6_count_29 rfl (v := nI (q + 1)) (nI_1 _) (by decide) rfl (L' := [some (.ref (A 6 0 0)), some (.int x), some (.int (c + 1)), some (.int (nI (q + 1)))]) rfl ?_
      refine gx_goto dX6_count_32 (tgt := 4) (by decide) ?_
      rw [show sm_ca σ (m + 1) q c = sm_ca σ m (q + 1) (c + 1) from by rw [sm_ca]; simp [hd], show q + (m + 1) = q + 1 + m by omega] at K
      exact ih (q + 1) (c + 1) (by omega) K
set_option maxHeartbeats 4000000 in
theorem cc_X6_count {S : gx_S} {h : gx_H} {σ : gs_T} {A : gs_A} (R : gs_R h σ A) (hm : σ.1 31 0 0 = 1) (V : gv_V σ) (x : Int32) : gx_Cn S gm_X6_count 3 [.ref (A 6 0 0), .int x] h (fun r h' => h' = h ∧ r = some (.int (sm_count σ x))) := by
  refine gx_Cn.of gt_X6_count (by simp [Value.category]) (Nat.le_of_ble_eq_true rfl) ?_
  show gx_Ev S gm_X6_count 3 0 [some (.ref (A 6 0 0)), some (.int x), none, none] [] h _
  refine gx_iconst dX6_count_0 (v := 0) (by decide) ?_
  refine gx_istore_n dX6_count_1 (by decide) rfl (L' := [some (.ref (A 6 0 0)), some (.int x), some (.int 0), none]) rfl ?_
  refine gx_iconst dX6_count_2 (v := 0) (by decide) ?_
  refine gx_istore_n dX6_count_3 (by decide) rfl (L' := [some (.ref (A 6 0 0)), some (.int x), some (.int 0), some (.int 0)]) rfl ?_
  refine cl_ct R hm V x _ 0 0 (Nat.zero_add _) ?_
  refine gx_iload_n dX6_count_35 rfl ?_
  refine gx_if_ne dX6_count_36 (tgt := 46) (by decide) (fun hc1 => ?_) (fun hc1 => ?_)
  · refine gx_iload_n dX6_count_46 rfl ?_
    refine gx_iconst dX6_count_47 (v := 1) (by decide) ?_
    refine gx_icmp_ne dX6_count_48 (tgt := 58) (by decide) (fun hc2 => ?_) (fun hc2 => ?_)
    · refine gx_iload_n dX6_count_58 rfl ?_
      refine gx_iconst dX6_count_59 (v := 2) (by decide) ?_
      refine gx_icmp_ne dX6_count_60 (tgt := 70) (by decide) (fun hc3 => ?_) (fun hc3 => ?_)
      · refine gx_iload_n dX6_count_70 rfl ?_
        refine gx_iconst dX6_count_71 (v := 3) (by decide) ?_
        refine gx_icmp_ne dX6_count_72 (tgt := 79) (by decide) (fun hc4 => ?_) (fun hc4 => ?_)
        · refine gx_iload_n dX6_count_79 rfl ?_
          refine gx_iconst dX6_count_80 (v := 4) (by decide) ?_
          refine gx_icmp_ne dX6_count_81 (tgt := 91) (by decide) (fun hc5 => ?_) (fun hc5 => ?_)
          · refine gx_iconst dX6_count_91 (v := (-1)) (by decide) ?_
            refine gx_ireturn dX6_count_92 ?_
            exact ⟨⟨_, rfl, rfl⟩, rfl, by simp [sm_count, hc1, hc2, hc3, hc4, hc5]⟩
          · refine gx_aload_n dX6_count_84 rfl ?_
            refine gx_invV dX6_count_85 wm_X6_162 gt_X6_doneCount wy_X6_doneCount wl_X6_doneCount (ci := 6) rfl rfl (gs_g6 R hm) (As := []) (rest := []) rfl rfl (Nat.le_of_ble_eq_true rfl) (by decide) (cc_X6_doneCount R hm V) (fun r1 h q1 => ?_)
            obtain ⟨rfl, rfl⟩ := q1
            show gx_Ev _ _ _ _ _ [.int (sm_dn σ (σ.1 104 0 0) 0 0)] _ _
            refine gx_goto dX6_count_88 (tgt := 92) (by decide) ?_
            refine gx_ireturn dX6_count_92 ?_
            exact ⟨⟨_, rfl, rfl⟩, rfl, by simp [sm_count, hc1, hc2, hc3, hc4, hc5]⟩
        · refine gx_iload_n dX6_count_75 rfl ?_
          refine gx_goto dX6_count_76 (tgt := 92) (by decide) ?_
          refine gx_ireturn dX6_count_92 ?_
          exact ⟨⟨_, rfl, rfl⟩, rfl, by simp [sm_count, hc1, hc2, hc3, hc4]⟩
      · refine gx_aload_n dX6_count_63 rfl ?_
        refine gx_get dX6_count_64 gf_X6_139 (gs_g6 R hm) (v := .int (σ.2.1 133 0 0)) (rfl) ?_
        refine gx_goto dX6_count_67 (tgt := 92) (by decide) ?_
        refine gx_ireturn dX6_count_92 ?_
        exact ⟨⟨_, rfl, rfl⟩, rfl, by simp [sm_count, hc1, hc2, hc3]⟩
    · refine gx_aload_n dX6_count_51 rfl ?_
      refine gx_get dX6_count_52 gf_X6_124 (gs_g6 R hm) (v := .int (nI (σ.1 104 0 0))) (rfl) ?_
      refine gx_goto dX6_count_55 (tgt := 92) (by decide) ?_
      refine gx_ireturn dX6_count_92 ?_
      exact ⟨⟨_, rfl, rfl⟩, rfl, by simp [sm_count, hc1, hc2]⟩
  · refine gx_aload_n dX6_count_39 rfl ?_
    refine gx_get dX6_count_40 gf_X6_101 (gs_g6 R hm) (v := .int (nI (σ.1 100 0 0))) (rfl) ?_
    refine gx_goto dX6_count_43 (tgt := 92) (by decide) ?_
    refine gx_ireturn dX6_count_92 ?_
    exact ⟨⟨_, rfl, rfl⟩, rfl, by simp [sm_count, hc1]⟩
