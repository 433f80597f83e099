/-! the reference: send, comesStart -/
abbrev sv_ok (x k a b c : Int32) : Prop := (0 ≤ x ∧ x < 4) ∧ (0 ≤ k ∧ k < 4) ∧ (0 ≤ a ∧ a < 16) ∧ (0 ≤ b ∧ b < 16) ∧ 0 ≤ c ∧ c ≤ 1000000
def sm_sw (σ : gs_T) (x k a b c : Int32) : gs_T := (gs_i (gs_i (gs_n (gs_n (gs_i (gs_n (gs_n σ 104 0 0 (σ.1 104 0 0 + 1)) 105 (σ.1 104 0 0) 0 x.toNatClampNeg) 106 (σ.1 104 0 0) 0 k) 107 (σ.1 104 0 0) 0 a.toNatClampNeg) 108 (σ.1 104 0 0) 0 b.toNatClampNeg) 109 (σ.1 104 0 0) 0 c) 110 (σ.1 104 0 0) 0 (σ.2.1 113 x.toNatClampNeg 0))
def sm_send (σ : gs_T) (x k a b c : Int32) : gs_T := if sv_ok x k a b c ∧ ¬ σ.1 104 0 0 = 40 then sm_po (sm_sw σ x k a b c) 0 (σ.1 104 0 0) 0 (-1) (σ.1 100 0 0) else σ
def sm_sendr (σ : gs_T) (x k a b c : Int32) : Int32 := if sv_ok x k a b c ∧ ¬ σ.1 104 0 0 = 40 then nI (σ.1 104 0 0) else -1
set_option maxHeartbeats 4000000 in
theorem cc_X6_send {S : gx_S} {h : gx_H} {σ : gs_T} {A : gs_A} (R : gs_R h σ A) (hm : σ.1 31 0 0 = 1) (V : gv_V σ) (x k a b c : Int32) (hF : σ.1 125 0 0 + 4 ≤ 400) : gx_Cn S gm_X6_send 3 [.ref (A 6 0 0), .int x, .int k, .int a, .int b, .int c] h (fun r h' => gs_R h' (sm_send σ x k a b c) A ∧ gs_sm h h' ∧ r = some (.int (sm_sendr σ x k a b c))) := by
  refine gx_Cn.of gt_X6_send (by simp [Value.category]) (Nat.le_of_ble_eq_true rfl) ?_
  show gx_Ev S gm_X6_send 3 0 [some (.ref (A 6 0 0)), some (.int x), some (.int k), some (.int a), some (.int b), some (.int c), none] [] h _
  refine gx_iload_n dX6_send_0 rfl ?_
  refine gx_iconst dX6_send_1 (v := 4) (by decide) ?_
  refine gx_invS dX6_send_2 wm_X6_120 gt_X6_isIn ws_X6_isIn (As := [.int x, .int 4]) (rest := []) rfl rfl (Nat.le_of_ble_eq_true rfl) (by decide) (cc_X6_isIn x 4) (fun r1 h q1 => ?_)
  obtain ⟨rfl, rfl⟩ := q1
  show gx_Ev _ _ _ _ _ [.int (gs_bi (0 ≤ x ∧ x < 4))] _ _
  refine gx_if_eq dX6_send_5 (tgt := 56) (by decide) (fun hc1 => ?_) (fun hc1 => ?_)
  · have hc1 := gs_b0 hc1
    refine gx_iconst dX6_send_56 (v := (-1)) (by decide) ?_
    refine gx_ireturn dX6_send_57 ?_
    have hno : ¬ (sv_ok x k a b c ∧ ¬ σ.1 104 0 0 = 40) := fun z => hc1 z.1.1
    exact ⟨⟨_, rfl, rfl⟩, by rw [sm_send, if_neg hno]; exact R, gs_sm.rfl, by rw [sm_sendr, if_neg hno]⟩
  · have hc1 := gs_b1 hc1
    refine gx_iload_n dX6_send_8 rfl ?_
    refine gx_iconst dX6_send_9 (v := 4) (by decide) ?_
    refine gx_invS dX6_send_10 wm_X6_120 gt_X6_isIn ws_X6_isIn (As := [.int k, .int 4]) (rest := []) rfl rfl (Nat.le_of_ble_eq_true rfl) (by decide) (cc_X6_isIn k 4) (fun r1 h q1 => ?_)
    obtain ⟨rfl, rfl⟩ := q1
    show gx_Ev _ _ _ _ _ [.int (gs_bi (0 ≤ k ∧ k < 4))] _ _
    refine gx_if_eq dX6_send_13 (tgt := 56) (by decide) (fun hc2 => ?_) (fun hc2 => ?_)
    · have hc2 := gs_b0 hc2
      refine gx_iconst dX6_send_56 (v := (-1)) (by decide) ?_
      refine gx_ireturn dX6_send_57 ?_
      have hno : ¬ (sv_ok x k a b c ∧ ¬ σ.1 104 0 0 = 40) := fun z => hc2 z.1.2.1
      exact ⟨⟨_, rfl, rfl⟩, by rw [sm_send, if_neg hno]; exact R, gs_sm.rfl, by rw [sm_sendr, if_neg hno]⟩
    · have hc2 := gs_b1 hc2
      refine gx_iload_n dX6_send_16 rfl ?_
      refine gx_bipush dX6_send_17 (v := 16) (by decide) ?_
      refine gx_invS dX6_send_19 wm_X6_120 gt_X6_isIn ws_X6_isIn (As := [.int a, .int 16]) (rest := []) rfl rfl (Nat.le_of_ble_eq_true rfl) (by decide) (cc_X6_isIn a 16) (fun r1 h q1 => ?_)
      obtain ⟨rfl, rfl⟩ := q1
      show gx_Ev _ _ _ _ _ [.int (gs_bi (0 ≤ a ∧ a < 16))] _ _
      refine gx_if_eq dX6_send_22 (tgt := 56) (by decide) (fun hc3 => ?_) (fun hc3 => ?_)
      · have hc3 := gs_b0 hc3
        refine gx_iconst dX6_send_56 (v := (-1)) (by decide) ?_
        refine gx_ireturn dX6_send_57 ?_
        have hno : ¬ (sv_ok x k a b c ∧ ¬ σ.1 104 0 0 = 40) := fun z => hc3 z.1.2.2.1
        exact ⟨⟨_, rfl, rfl⟩, by rw [sm_send, if_neg hno]; exact R, gs_sm.rfl, by rw [sm_sendr, if_neg hno]⟩
      · have hc3 := gs_b1 hc3
        refine gx_iload dX6_send_25 rfl ?_
        refine gx_bipush dX6_send_27 (v := 16) (by decide) ?_
        refine gx_invS dX6_send_29 wm_X6_120 gt_X6_isIn ws_X6_isIn (As := [.int b, .int 16]) (rest := []) rfl rfl (Nat.le_of_ble_eq_true rfl) (by decide) (cc_X6_isIn b 16) (fun r1 h q1 => ?_)
        obtain ⟨rfl, rfl⟩ := q1
        show gx_Ev _ _ _ _ _ [.int (gs_bi (0 ≤ b ∧ b < 16))] _ _
        refine gx_if_eq dX6_send_32 (tgt := 56) (by decide) (fun hc4 => ?_) (fun hc4 => ?_)
        · have hc4 := gs_b0 hc4
          refine gx_iconst dX6_send_56 (v := (-1)) (by decide) ?_
          refine gx_ireturn dX6_send_57 ?_
          have hno : ¬ (sv_ok x k a b c ∧ ¬ σ.1 104 0 0 = 40) := fun z => hc4 z.1.2.2.2.1
          exact ⟨⟨_, rfl, rfl⟩, by rw [sm_send, if_neg hno]; exact R, gs_sm.rfl, by rw [sm_sendr, if_neg hno]⟩
        · have hc4 := gs_b1 hc4
          refine gx_iload dX6_send_35 rfl ?_
          refine gx_if_lt dX6_send_37 (tgt := 56) (by decide) (fun hc5 => ?_) (fun hc5 => ?_)
          · refine gx_iconst dX6_send_56 (v := (-1)) (by decide) ?_
            refine gx_ireturn dX6_send_57 ?_
            have hno : ¬ (sv_ok x k a b c ∧ ¬ σ.1 104 0 0 = 40) := fun z => Int32.not_lt.mpr z.1.2.2.2.2.1 hc5
            exact ⟨⟨_, rfl, rfl⟩, by rw [sm_send, if_neg hno]; exact R, gs_sm.rfl, by rw [sm_sendr, if_neg hno]⟩
          · refine gx_iload dX6_send_40 rfl ?_
            refine gx_ldc dX6_send_42 wt_X6_123 ?_
            refine gx_icmp_gt dX6_send_44 (tgt := 56) (by decide) (fun hc6 => ?_) (fun hc6 => ?_)
            · refine gx_iconst dX6_send_56 (v := (-1)) (by decide) ?_
              refine gx_ireturn dX6_send_57 ?_
              have hno : ¬ (sv_ok x k a b c ∧ ¬ σ.1 104 0 0 = 40) := fun z => Int32.not_lt.mpr z.1.2.2.2.2.2 hc6
              exact ⟨⟨_, rfl, rfl⟩, by rw [sm_send, if_neg hno]; exact R, gs_sm.rfl, by rw [sm_sendr, if_neg hno]⟩
            · refine gx_aload_n dX6_send_47 rfl ?_
              refine gx_get dX6_send_48 gf_X6_124 (gs_g6 R hm) (v := .int (nI (σ.1 104 0 0))) (rfl) ?_
              refine gx_bipush dX6_send_51 (v := 40) (by decide) ?_
              refine gx_icmp_ne dX6_send_53 (tgt := 58) (by decide) (fun hc7 => ?_) (fun hc7 => ?_)
              · have hlt : σ.1 104 0 0 < 40 := Nat.lt_of_le_of_ne (gv_cnt V) (fun z => hc7 (by rw [z]; rfl))
                refine gx_aload_n dX6_send_58 rfl ?_
                refine gx_get dX6_send_59 gf_X6_124 (gs_g6 R hm) (v := .int (nI (σ.1 104 0 0))) (rfl) ?_
                refine gx_istore dX6_send_62 (by decide) rfl (L' := [some (.ref (A 6 0 0)), some (.int x), some (.int k), some (.int a), some (.int b), some (.int c), some (.int (nI (σ.1 104 0 0)))]) rfl ?_
                refine gx_aload_n dX6_send_64 rfl ?_
                refine gx_dup dX6_send_65 rfl ?_
                refine gx_get dX6_send_66 gf_X6_124 (gs_g6 R hm) (v := .int (nI (σ.1 104 0 0))) (rfl) ?_
                refine gx_iconst dX6_send_69 (v := 1) (by decide) ?_
                refine gx_iadd dX6_send_70 ?_
                rw [show ((nI (σ.1 104 0 0)) + 1 : Int32) = nI (σ.1 104 0 0 + 1) from nI_1 _]
                refine gp_N104 (σ := σ) hm dX6_send_71 gf_X6_124 R (rfl) (v := σ.1 104 0 0 + 1) (fun h R hs0 => ?_)
                refine gx_aload_n dX6_send_74 rfl ?_
                refine gx_get dX6_send_75 gf_X6_20 (gs_g6 R hm) (v := .ref (A 25 0 0)) (rfl) ?_
                refine gx_iload dX6_send_78 rfl ?_
                refine gx_iload_n dX6_send_80 rfl ?_
                refine ga_N105 (σ := (gs_n σ 104 0 0 (σ.1 104 0 0 + 1))) hm dX6_send_81 R ((gs_ixl (N := 4) rfl hc1 (by decide)).1) (q := σ.1 104 0 0) (v := x.toNatClampNeg) (rfl) (hlt) (fun h R hs1 => ?_)
                refine gx_aload_n dX6_send_82 rfl ?_
                refine gx_get dX6_send_83 gf_X6_23 (gs_g6 R hm) (v := .ref (A 26 0 0)) (rfl) ?_
                refine gx_iload dX6_send_86 rfl ?_
                refine gx_iload_n dX6_send_88 rfl ?_
                refine ga_I106 (σ := (gs_n (gs_n σ 104 0 0 (σ.1 104 0 0 + 1)) 105 (σ.1 104 0 0) 0 x.toNatClampNeg)) hm dX6_send_89 R (q := σ.1 104 0 0) (v := k) (rfl) (hlt) (fun h R hs2 => ?_)
                refine gx_aload_n dX6_send_90 rfl ?_
                refine gx_get dX6_send_91 gf_X6_26 (gs_g6 R hm) (v := .ref (A 27 0 0)) (rfl) ?_
                refine gx_iload dX6_send_94 rfl ?_
                refine gx_iload_n dX6_send_96 rfl ?_
                refine ga_N107 (σ := (gs_i (gs_n (gs_n σ 104 0 0 (σ.1 104 0 0 + 1)) 105 (σ.1 104 0 0) 0 x.toNatClampNeg) 106 (σ.1 104 0 0) 0 k)) hm dX6_send_97 R ((gs_ixl (N := 16) rfl hc3 (by decide)).1) (q := σ.1 104 0 0) (v := a.toNatClampNeg) (rfl) (hlt) (fun h R hs3 => ?_)
                refine gx_aload_n dX6_send_98 rfl ?_
                refine gx_get dX6_send_99 gf_X6_29 (gs_g6 R hm) (v := .ref (A 28 0 0)) (rfl) ?_
                refine gx_iload dX6_send_102 rfl ?_
                refine gx_iload dX6_send_104 rfl ?_
                refine ga_N108 (σ := (gs_n (gs_i (gs_n (gs_n σ 104 0 0 (σ.1 104 0 0 + 1)) 105 (σ.1 104 0 0) 0 x.toNatClampNeg) 106 (σ.1 104 0 0) 0 k) 107 (σ.1 104 0 0) 0 a.toNatClampNeg)) hm dX6_send_106 R ((gs_ixl (N := 16) rfl hc4 (by decide)).1) (q := σ.1 104 0 0) (v := b.toNatClampNeg) (rfl) (hlt) (fun h R hs4 => ?_)
                refine gx_aload_n dX6_send_107 rfl ?_
                refine gx_get dX6_send_108 gf_X6_32 (gs_g6 R hm) (v := .ref (A 29 0 0)) (rfl) ?_
                refine gx_iload dX6_send_111 rfl ?_
                refine gx_iload dX6_send_113 rfl ?_
                refine ga_I109 (σ := (gs_n (gs_n (gs_i (gs_n (gs_n σ 104 0 0 (σ.1 104 0 0 + 1)) 105 (σ.1 104 0 0) 0 x.toNatClampNeg) 106 (σ.1 104 0 0) 0 k) 107 (σ.1 104 0 0) 0 a.toNatClampNeg) 108 (σ.1 104 0 0) 0 b.toNatClampNeg)) hm dX6_send_115 R (q := σ.1 104 0 0) (v := c) (rfl) (hlt) (fun h R hs5 => ?_)
                refine gx_aload_n dX6_send_116 rfl ?_
                refine gx_get dX6_send_117 gf_X6_35 (gs_g6 R hm) (v := .ref (A 30 0 0)) (rfl) ?_
                refine gx_iload dX6_send_120 rfl ?_
                refine gx_aload_n dX6_send_122 rfl ?_
                refine gx_get dX6_send_123 gf_X6_44 (gs_g6 R hm) (v := .ref (A 33 0 0)) (rfl) ?_
                refine gx_iload_n dX6_send_126 rfl ?_
                refine gq_33 dX6_send_127 R hm (q := x.toNatClampNeg) ((gs_ixl (N := 4) rfl hc1 (by decide)).1) ((gs_ixl (N := 4) rfl hc1 (by decide)).2) (v := σ.2.1 113 x.toNatClampNeg 0) (rfl) ?_
                refine ga_I110 (σ := (gs_i (gs_n (gs_n (gs_i (gs_n (gs_n σ 104 0 0 (σ.1 104 0 0 + 1)) 105 (σ.1 104 0 0) 0 x.toNatClampNeg) 106 (σ.1 104 0 0) 0 k) 107 (σ.1 104 0 0) 0 a.toNatClampNeg) 108 (σ.1 104 0 0) 0 b.toNatClampNeg) 109 (σ.1 104 0 0) 0 c)) hm dX6_send_128 R (q := σ.1 104 0 0) (v := σ.2.1 113 x.toNatClampNeg 0) (rfl) (hlt) (fun h R hs6 => ?_)
                refine gx_aload_n dX6_send_129 rfl ?_
                refine gx_iconst dX6_send_130 (v := 0) (by decide) ?_
                refine gx_iload dX6_send_131 rfl ?_
                refine gx_iconst dX6_send_133 (v := (-1)) (by decide) ?_
                refine gx_iconst dX6_send_134 (v := (-1)) (by decide) ?_
                refine gx_invV dX6_send_135 wm_X6_127 gt_X6_putOthers wy_X6_putOthers wl_X6_putOthers (ci := 6) rfl rfl (gs_g6 R hm) (As := [.int 0, .int (nI (σ.1 104 0 0)), .int (-1), .int (-1)]) (rest := []) rfl rfl (Nat.le_of_ble_eq_true rfl) (by decide) (cc_X6_putOthers R hm (gv_i (gv_i (gv_n (gv_n (gv_i (gv_n (gv_n V (by decide) (show _ ≤ 40 from hlt)) (by decide) (gs_ixl (N := 4) rfl hc1 (by decide)).2)) (by decide) (gs_ixl (N := 16) rfl hc3 (by decide)).2) (by decide) (gs_ixl (N := 16) rfl hc4 (by decide)).2))) 0 (o := σ.1 104 0 0) (f := 0) (-1) (hlt) (Nat.zero_le _) (hF)) (fun r1 h q1 => ?_)
                obtain ⟨R, hs7, rfl⟩ := q1
                show gx_Ev _ _ _ _ _ [] _ _
                refine gx_iload dX6_send_138 rfl ?_
                refine gx_ireturn dX6_send_140 ?_
                have hyes : sv_ok x k a b c ∧ ¬ σ.1 104 0 0 = 40 := ⟨⟨hc1, hc2, hc3, hc4, gs_nlt hc5, Int32.not_lt.mp hc6⟩, fun z => hc7 (by rw [z]; rfl)⟩
                exact ⟨⟨_, rfl, rfl⟩, by rw [sm_send, if_pos hyes]; exact R, ((((((((gs_sm.rfl.trans hs0).trans hs1).trans hs2).trans hs3).trans hs4).trans hs5).trans hs6).trans hs7), by rw [sm_sendr, if_pos hyes]⟩
              · refine gx_iconst dX6_send_56 (v := (-1)) (by decide) ?_
                refine gx_ireturn dX6_send_57 ?_
                have hno : ¬ (sv_ok x k a b c ∧ ¬ σ.1 104 0 0 = 40) := fun z => z.2 ((nI_eq (by have := gv_cnt V; omega) (by decide)).mp hc7)
                exact ⟨⟨_, rfl, rfl⟩, by rw [sm_send, if_neg hno]; exact R, gs_sm.rfl, by rw [sm_sendr, if_neg hno]⟩
def sm_cv (σ : gs_T) (g o : Nat) : Int32 := (if σ.2.1 101 g 0 ≤ σ.2.1 110 o 0 then σ.2.1 110 o 0 else σ.2.1 101 g 0) + 1
def sm_cs (σ : gs_T) (g o : Nat) : gs_T := if σ.2.1 114 (40 * g + o) 0 = 0 then sm_po (gs_i (gs_i (gs_i σ 114 (40 * g + o) 0 1) 101 g 0 (sm_cv σ g o)) 119 (4 * (40 * g + o) + g) 0 (sm_cv σ g o)) 1 o (g + 1) (sm_cv σ g o) (σ.1 100 0 0) else σ
set_option maxHeartbeats 4000000 in
theorem cc_X6_comesStart {S : gx_S} {h : gx_H} {σ : gs_T} {A : gs_A} (R : gs_R h σ A) (hm : σ.1 31 0 0 = 1) (V : gv_V σ) {g o : Nat} (hg : g < σ.1 100 0 0) (hg4 : g < 4) (ho : o < 40) (hF : σ.1 125 0 0 + 4 ≤ 400) : gx_Cn S gm_X6_comesStart 3 [.ref (A 6 0 0), .int (nI g), .int (nI o)] h (fun r h' => gs_R h' (sm_cs σ g o) A ∧ gs_sm h h' ∧ r = none) := by
  refine gx_Cn.of gt_X6_comesStart (by simp [Value.category]) (Nat.le_of_ble_eq_true rfl) ?_
  show gx_Ev S gm_X6_comesStart 3 0 [some (.ref (A 6 0 0)), some (.int (nI g)), some (.int (nI o))] [] h _
  refine gx_aload_n dX6_comesStart_0 rfl ?_
  refine gx_get dX6_comesStart_1 gf_X6_47 (gs_g6 R hm) (v := .ref (A 34 0 0)) (rfl) ?_
  refine gx_iload_n dX6_comesStart_4 rfl ?_
  refine gx_iload_n dX6_comesStart_5 rfl ?_
  refine gx_invS dX6_comesStart_6 wm_X6_105 gt_X6_at ws_X6_at (As := [.int (nI g), .int (nI o)]) (rest := [.ref (A 34 0 0)]) rfl rfl (Nat.le_of_ble_eq_true rfl) (by decide) (cc_X6_atE (g := g) (o := o) (rfl) (rfl)) (fun r1 h q1 => ?_)
  obtain ⟨rfl, rfl⟩ := q1
  show gx_Ev _ _ _ _ _ [.int (nI (40 * g + o)), .ref (A 34 0 0)] _ _
  refine gq_34 dX6_comesStart_9 R hm (q := 40 * g + o) (rfl) (by omega) (v := σ.2.1 114 (40 * g + o) 0) (rfl) ?_
  refine gx_if_eq dX6_comesStart_10 (tgt := 14) (by decide) (fun hc1 => ?_) (fun hc1 => ?_)
  · refine gx_aload_n dX6_comesStart_14 rfl ?_
    refine gx_get dX6_comesStart_15 gf_X6_47 (gs_g6 R hm) (v := .ref (A 34 0 0)) (rfl) ?_
    refine gx_iload_n dX6_comesStart_18 rfl ?_
    refine gx_iload_n dX6_comesStart_19 rfl ?_
    refine gx_invS dX6_comesStart_20 wm_X6_105 gt_X6_at ws_X6_at (As := [.int (nI g), .int (nI o)]) (rest := [.ref (A 34 0 0)]) rfl rfl (Nat.le_of_ble_eq_true rfl) (by decide) (cc_X6_atE (g := g) (o := o) (rfl) (rfl)) (fun r1 h q1 => ?_)
    obtain ⟨rfl, rfl⟩ := q1
    show gx_Ev _ _ _ _ _ [.int (nI (40 * g + o)), .ref (A 34 0 0)] _ _
    refine gx_iconst dX6_comesStart_23 (v := 1) (by decide) ?_
    refine ga_I114 (σ := σ) hm dX6_comesStart_24 R (by first | exact Or.inl rfl | exact Or.inr rfl) (q := 40 * g + o) (v := 1) (rfl) (by omega) (fun h R hs0 => ?_)
    refine gx_aload_n dX6_comesStart_25 rfl ?_
    refine gx_get dX6_comesStart_26 gf_X6_7 (gs_g6 R hm) (v := .ref (A 21 0 0)) (rfl) ?_
    refine gx_iload_n dX6_comesStart_29 rfl ?_
    refine gx_aload_n dX6_comesStart_30 rfl ?_
    refine gx_get dX6_comesStart_31 gf_X6_7 (gs_g6 R hm) (v := .ref (A 21 0 0)) (rfl) ?_
    refine gx_iload_n dX6_comesStart_34 rfl ?_
    refine gq_21 dX6_comesStart_35 R hm (q := g) (rfl) (by omega) (v := σ.2.1 101 g 0) (rfl) ?_
    refine gx_aload_n dX6_comesStart_36 rfl ?_
    refine gx_get dX6_comesStart_37 gf_X6_35 (gs_g6 R hm) (v := .ref (A 30 0 0)) (rfl) ?_
    refine gx_iload_n dX6_comesStart_40 rfl ?_
    refine gq_30 dX6_comesStart_41 R hm (q := o) (rfl) (by omega) (v := σ.2.1 110 o 0) (rfl) ?_
    refine gx_icmp_le dX6_comesStart_42 (tgt := 54) (by decide) (fun hc2 => ?_) (fun hc2 => ?_)
    · refine gx_aload_n dX6_comesStart_54 rfl ?_
      refine gx_get dX6_comesStart_55 gf_X6_35 (gs_g6 R hm) (v := .ref (A 30 0 0)) (rfl) ?_
      refine gx_iload_n dX6_comesStart_58 rfl ?_
      refine gq_30 dX6_comesStart_59 R hm (q := o) (rfl) (by omega) (v := σ.2.1 110 o 0) (rfl) ?_
      refine gx_iconst dX6_comesStart_60 (v := 1) (by decide) ?_
      refine gx_iadd dX6_comesStart_61 ?_
      refine ga_I101 (σ := (gs_i σ 114 (40 * g + o) 0 1)) hm dX6_comesStart_62 R (q := g) (v := (σ.2.1 110 o 0) + 1) (rfl) (by omega) (fun h R hs1 => ?_)
      refine gx_aload_n dX6_comesStart_63 rfl ?_
      refine gx_get dX6_comesStart_64 gf_X6_62 (gs_g6 R hm) (v := .ref (A 39 0 0)) (rfl) ?_
      refine gx_iload_n dX6_comesStart_67 rfl ?_
      refine gx_iload_n dX6_comesStart_68 rfl ?_
      refine gx_iload_n dX6_comesStart_69 rfl ?_
      refine gx_invS dX6_comesStart_70 wm_X6_131 gt_X6_of ws_X6_of (As := [.int (nI g), .int (nI o), .int (nI g)]) (rest := [.ref (A 39 0 0)]) rfl rfl (Nat.le_of_ble_eq_true rfl) (by decide) (cc_X6_ofE (g := g) (o := o) (q := g) (rfl) (rfl) (rfl)) (fun r1 h q1 => ?_)
      obtain ⟨rfl, rfl⟩ := q1
      show gx_Ev _ _ _ _ _ [.int (nI (4 * (40 * g + o) + g)), .ref (A 39 0 0)] _ _
      refine gx_aload_n dX6_comesStart_73 rfl ?_
      refine gx_get dX6_comesStart_74 gf_X6_7 (gs_g6 R hm) (v := .ref (A 21 0 0)) (rfl) ?_
      refine gx_iload_n dX6_comesStart_77 rfl ?_
      refine gq_21 dX6_comesStart_78 R hm (q := g) (rfl) (by omega) (v := (σ.2.1 110 o 0) + 1) (by simp [gs_i, gs_n, gs_u]) ?_
      refine ga_I119 (σ := (gs_i (gs_i σ 114 (40 * g + o) 0 1) 101 g 0 ((σ.2.1 110 o 0) + 1))) hm dX6_comesStart_79 R (q := 4 * (40 * g + o) + g) (v := (σ.2.1 110 o 0) + 1) (rfl) (by omega) (fun h R hs2 => ?_)
      refine gx_aload_n dX6_comesStart_80 rfl ?_
      refine gx_iconst dX6_comesStart_81 (v := 1) (by decide) ?_
      refine gx_iload_n dX6_comesStart_82 rfl ?_
      refine gx_iload_n dX6_comesStart_83 rfl ?_
      refine gx_aload_n dX6_comesStart_84 rfl ?_
      refine gx_get dX6_comesStart_85 gf_X6_7 (gs_g6 R hm) (v := .ref (A 21 0 0)) (rfl) ?_
      refine gx_iload_n dX6_comesStart_88 rfl ?_
      refine gq_21 dX6_comesStart_89 R hm (q := g) (rfl) (by omega) (v := (σ.2.1 110 o 0) + 1) (by simp [gs_i, gs_n, gs_u]) ?_
      refine gx_invV dX6_comesStart_90 wm_X6_127 gt_X6_putOthers wy_X6_putOthers wl_X6_putOthers (ci := 6) rfl rfl (gs_g6 R hm) (As := [.int 1, .int (nI o), .int (nI g), .int ((σ.2.1 110 o 0) + 1)]) (rest := []) rfl rfl (Nat.le_of_ble_eq_true rfl) (by decide) (cc_X6_putOthers R hm V 1 (o := o) (f := g + 1) ((σ.2.1 110 o 0) + 1) (ho) (hg) (hF)) (fun r1 h q1 => ?_)
      obtain ⟨R, hs3, rfl⟩ := q1
      show gx_Ev _ _ _ _ _ [] _ _
      refine gx_return dX6_comesStart_93 ?_
      have hcv : sm_cv σ g o = (σ.2.1 110 o 0) + 1 := by rw [sm_cv, if_pos hc2]
      exact ⟨rfl, by rw [sm_cs, if_pos hc1, hcv]; exact R, ((((gs_sm.rfl.trans hs0).trans hs1).trans hs2).trans hs3), rfl⟩
    · refine gx_aload_n dX6_comesStart_45 rfl ?_
      refine gx_get dX6_comesStart_46 gf_X6_7 (gs_g6 R hm) (v := .ref (A 21 0 0)) (rfl) ?_
      refine gx_iload_n dX6_comesStart_49 rfl ?_
      refine gq_21 dX6_comesStart_50 R hm (q := g) (rfl) (by omega) (v := σ.2.1 101 g 0) (rfl) ?_
      refine gx_goto dX6_comesStart_51 (tgt := 60) (by decide) ?_
      refine gx_iconst dX6_comesStart_60 (v := 1) (by decide) ?_
      refine gx_iadd dX6_comesStart_61 ?_
      refine ga_I101 (σ := (gs_i σ 114 (40 * g + o) 0 1)) hm dX6_comesStart_62 R (q := g) (v := (σ.2.1 101 g 0) + 1) (rfl) (by omega) (fun h R hs1 => ?_)
      refine gx_aload_n dX6_comesStart_63 rfl ?_
      refine gx_get dX6_comesStart_64 gf_X6_62 (gs_g6 R hm) (v := .ref (A 39 0 0)) (rfl) ?_
      refine gx_iload_n dX6_comesStart_67 rfl ?_
      refine gx_iload_n dX6_comesStart_68 rfl ?_
      refine gx_iload_n dX6_comesStart_69 rfl ?_
      refine gx_invS dX6_comesStart_70 wm_X6_131 gt_X6_of ws_X6_of (As := [.int (nI g), .int (nI o), .int (nI g)]) (rest := [.ref (A 39 0 0)]) rfl rfl (Nat.le_of_ble_eq_true rfl) (by decide) (cc_X6_ofE (g := g) (o := o) (q := g) (rfl) (rfl) (rfl)) (fun r1 h q1 => ?_)
      obtain ⟨rfl, rfl⟩ := q1
      show gx_Ev _ _ _ _ _ [.int (nI (4 * (40 * g + o) + g)), .ref (A 39 0 0)] _ _
      refine gx_aload_n dX6_comesStart_73 rfl ?_
      refine gx_get dX6_comesStart_74 gf_X6_7 (gs_g6 R hm) (v := .ref (A 21 0 0)) (rfl) ?_
      refine gx_iload_n dX6_comesStart_77 rfl ?_
      refine gq_21 dX6_comesStart_78 R hm (q := g) (rfl) (by omega) (v := (σ.2.1 101 g 0) + 1) (by simp [gs_i, gs_n, gs_u]) ?_
      refine ga_I119 (σ := (gs_i (gs_i σ 114 (40 * g + o) 0 1) 101 g 0 ((σ.2.1 101 g 0) + 1))) hm dX6_comesStart_79 R (q := 4 * (40 * g + o) + g) (v := (σ.2.1 101 g 0) + 1) (rfl) (by omega) (fun h R hs2 => ?_)
      refine gx_aload_n dX6_comesStart_80 rfl ?_
      refine gx_iconst dX6_comesStart_81 (v := 1) (by decide) ?_
      refine gx_iload_n dX6_comesStart_82 rfl ?_
      refine gx_iload_n dX6_comesStart_83 rfl ?_
      refine gx_aload_n dX6_comesStart_84 rfl ?_
      refine gx_get dX6_comesStart_85 gf_X6_7 (gs_g6 R hm) (v := .ref (A 21 0 0)) (rfl) ?_
      refine gx_iload_n dX6_comesStart_88 rfl ?_
      refine gq_21 dX6_comesStart_89 R hm (q := g) (rfl) (by omega) (v := (σ.2.1 101 g 0) + 1) (by simp [gs_i, gs_n, gs_u]) ?_
      refine gx_invV dX6_comesStart_90 wm_X6_127 gt_X6_putOthers wy_X6_putOthers wl_X6_putOthers (ci := 6) rfl rfl (gs_g6 R hm) (As := [.int 1, .int (nI o), .int (nI g), .int ((σ.2.1 101 g 0) + 1)]) (rest := []) rfl rfl (Nat.le_of_ble_eq_true rfl) (by decide) (cc_X6_putOthers R hm V 1 (o := o) (f := g + 1) ((σ.2.1 101 g 0) + 1) (ho) (hg) (hF)) (fun r1 h q1 => ?_)
      obtain ⟨R, hs3, rfl⟩ := q1
      show gx_Ev _ _ _ _ _ [] _ _
      refine gx_return dX6_comesStart_93 ?_
      have hcv : sm_cv σ g o = (σ.2.1 101 g 0) + 1 := by rw [sm_cv, if_neg hc2]
      exact ⟨rfl, by rw [sm_cs, if_pos hc1, hcv]; exact R, ((((gs_sm.rfl.trans hs0).trans hs1).trans hs2).trans hs3), rfl⟩
  · refine gx_return dX6_comesStart_13 ?_
    exact ⟨rfl, by rw [sm_cs, if_neg hc1]; exact R, gs_sm.rfl, rfl⟩
