/-! the reference: works -/
def sm_wk (σ : gs_T) (g m k : Nat) : Nat := match m with
  | 0 => k
  | m + 1 => if σ.2.1 118 (40 * g + σ.1 124 (40 * g + k) 0) 0 = 0 then k else sm_wk σ g m (k + 1)
theorem sm_wk_le (σ : gs_T) (g m k : Nat) : sm_wk σ g m k ≤ k + m := by
  induction m generalizing k with
  | zero => exact Nat.le_refl _
  | succ m ih =>
    rw [sm_wk]
    split
    · omega
    · have := ih (k + 1)
      omega
abbrev sm_wbc (σ : gs_T) (g o q : Nat) : Prop := ¬ q = g ∧ gv_of σ q o ∧ σ.2.1 120 (4 * (40 * g + o) + q) 0 = 0
def sm_wb (σ : gs_T) (g o m q : Nat) : Bool := match m with
  | 0 => true
  | m + 1 => if sm_wbc σ g o q then false else sm_wb σ g o m (q + 1)
def sm_wx (σ : gs_T) (g : Nat) : Nat := sm_wk σ g (σ.1 123 g 0) 0
def sm_wo_ (σ : gs_T) (g : Nat) : Nat := σ.1 124 (40 * g + sm_wx σ g) 0
def sm_ws (σ : gs_T) (g : Nat) : gs_T := if sm_wx σ g = σ.1 123 g 0 then σ else if σ.2.1 117 (40 * g + sm_wo_ σ g) 0 = 0 then sm_po (gs_i σ 117 (40 * g + sm_wo_ σ g) 0 1) 2 (sm_wo_ σ g) (g + 1) (-1) (σ.1 100 0 0) else if sm_wb σ g (sm_wo_ σ g) (σ.1 100 0 0) 0 = true then sm_wo σ g (sm_wo_ σ g) else σ
def sm_wr (σ : gs_T) (g : Nat) : Int32 := if sm_wx σ g = σ.1 123 g 0 then 0 else if σ.2.1 117 (40 * g + sm_wo_ σ g) 0 = 0 then 1 else if sm_wb σ g (sm_wo_ σ g) (σ.1 100 0 0) 0 = true then 1 else 0
set_option maxHeartbeats 4000000 in
theorem cl_w1 {S : gx_S} {h : gx_H} {σ : gs_T} {A : gs_A} (R : gs_R h σ A) (hm : σ.1 31 0 0 = 1) (V : gv_V σ) {g : Nat} (hg4 : g < 4) (w3 w4 : Option Value) {Q : Option Value → gx_H → Prop} : ∀ (m k : Nat), k + m = σ.1 123 g 0 → gx_Ev S gm_X6_works 4 40 [some (.ref (A 6 0 0)), some (.int (nI g)), some (.int (nI (sm_wk σ g m k))), w3, w4] [] h Q → gx_Ev S gm_X6_works 4 2 [some (.ref (A 6 0 0)), some (.int (nI g)), some (.int (nI k)), w3, w4] [] h Q := by
  intro m
  induction m with
  | zero =>
    intro k hk K
    have hqn : k = σ.1 123 g 0 := by omega
    have h40 := gv_tc V g
    refine gx_iload_n dX6_works_2 rfl ?_
    refine gx_aload_n dX6_works_3 rfl ?_
    refine gx_get dX6_works_4 gf_X6_74 (gs_g6 R hm) (v := .ref (A 43 0 0)) (rfl) ?_
    refine gx_iload_n dX6_works_7 rfl ?_
    refine gq_43 dX6_works_8 R hm (q := g) (rfl) (by omega) (v := nI (σ.1 123 g 0)) (rfl) ?_
    refine gx_icmp_ge dX6_works_9 (tgt := 40) (by decide) (fun hc1 => ?_) (fun hc1 => absurd hc1 (fun z => z (by rw [hqn]; exact nI_le (Nat.le_refl _) (by omega))))
    exact K
  | succ m ih =>
    intro k hk K
    have h40 := gv_tc V g
    have hqn : k < σ.1 123 g 0 := by omega
    have hrow := gv_tr V (40 * g + k)
    refine gx_iload_n dX6_works_2 rfl ?_
    refine gx_aload_n dX6_works_3 rfl ?_
    refine gx_get dX6_works_4 gf_X6_74 (gs_g6 R hm) (v := .ref (A 43 0 0)) (rfl) ?_
    refine gx_iload_n dX6_works_7 rfl ?_
    refine gq_43 dX6_works_8 R hm (q := g) (rfl) (by omega) (v := nI (σ.1 123 g 0)) (rfl) ?_
    refine gx_icmp_ge dX6_works_9 (tgt := 40) (by decide) (fun hc0 => absurd hc0 (nI_ge (by omega) (by omega))) (fun hc0 => ?_)
    refine gx_aload_n dX6_works_12 rfl ?_
    refine gx_get dX6_works_13 gf_X6_59 (gs_g6 R hm) (v := .ref (A 38 0 0)) (rfl) ?_
    refine gx_iload_n dX6_works_16 rfl ?_
    refine gx_aload_n dX6_works_17 rfl ?_
    refine gx_get dX6_works_18 gf_X6_77 (gs_g6 R hm) (v := .ref (A 44 0 0)) (rfl) ?_
    refine gx_iload_n dX6_works_21 rfl ?_
    refine gx_iload_n dX6_works_22 rfl ?_
    refine gx_invS dX6_works_23 wm_X6_105 gt_X6_at ws_X6_at (As := [.int (nI g), .int (nI k)]) (rest := [.ref (A 44 0 0), .int (nI g), .ref (A 38 0 0)]) rfl rfl (Nat.le_of_ble_eq_true rfl) (by decide) (cc_X6_atE (g := g) (o := k) (rfl) (rfl)) (fun r1 h q1 => ?_)
    obtain ⟨rfl, rfl⟩ := q1
    show gx_Ev _ _ _ _ _ [.int (nI (40 * g + k)), .ref (A 44 0 0), .int (nI g), .ref (A 38 0 0)] _ _
    refine gq_44 dX6_works_26 R hm (q := 40 * g + k) (rfl) (by omega) (v := nI (σ.1 124 (40 * g + k) 0)) (rfl) ?_
    refine gx_invS dX6_works_27 wm_X6_105 gt_X6_at ws_X6_at (As := [.int (nI g), .int (nI (σ.1 124 (40 * g + k) 0))]) (rest := [.ref (A 38 0 0)]) rfl rfl (Nat.le_of_ble_eq_true rfl) (by decide) (cc_X6_atE (g := g) (o := σ.1 124 (40 * g + k) 0) (rfl) (rfl)) (fun r1 h q1 => ?_)
    obtain ⟨rfl, rfl⟩ := q1
    show gx_Ev _ _ _ _ _ [.int (nI (40 * g + (σ.1 124 (40 * g + k) 0))), .ref (A 38 0 0)] _ _
    refine gq_38 dX6_works_30 R hm (q := 40 * g + (σ.1 124 (40 * g + k) 0)) (rfl) (by omega) (v := σ.2.1 118 (40 * g + (σ.1 124 (40 * g + k) 0)) 0) (rfl) ?_
    refine gx_if_eq dX6_works_31 (tgt := 40) (by decide) (fun hc1 => ?_) (fun hc1 => ?_)
    · rw [sm_wk, if_pos hc1] at K
      exact K
    · refine gx_iinc dX6_works_34 rfl (v := nI (k + 1)) (nI_1 _) (by decide) rfl (L' := [some (.ref (A 6 0 0)), some (.int (nI g)), some (.int (nI (k + 1))), w3, w4]) rfl ?_
      refine gx_goto dX6_works_37 (tgt := 2) (by decide) ?_
      rw [sm_wk, if_neg hc1] at K
      exact ih (k + 1) (by omega) K
set_option maxHeartbeats 4000000 in
theorem cl_w2 {S : gx_S} {h : gx_H} {σ : gs_T} {A : gs_A} (R : gs_R h σ A) (hm : σ.1 31 0 0 = 1) (V : gv_V σ) {g o : Nat} (hg4 : g < 4) (ho : o < 40) (w2 : Option Value) : ∀ (m q : Nat), q + m = σ.1 100 0 0 → gx_Ev S gm_X6_works 4 100 [some (.ref (A 6 0 0)), some (.int (nI g)), w2, some (.int (nI o)), some (.int (nI q))] [] h (fun r h' => gx_rt (some .boolean) r ∧ gs_R h' (if sm_wb σ g o m q = true then sm_wo σ g o else σ) A ∧ gs_sm h h' ∧ r = some (.int (if sm_wb σ g o m q = true then 1 else 0))) := by
  intro m
  induction m with
  | zero =>
    intro q hk
    have hqn : q = σ.1 100 0 0 := by omega
    have h40 := gv_n4 V
    refine gx_iload dX6_works_100 rfl ?_
    refine gx_aload_n dX6_works_102 rfl ?_
    refine gx_get dX6_works_103 gf_X6_101 (gs_g6 R hm) (v := .int (nI (σ.1 100 0 0))) (rfl) ?_
    refine gx_icmp_ge dX6_works_106 (tgt := 148) (by decide) (fun hc1 => ?_) (fun hc1 => absurd hc1 (fun z => z (by rw [hqn]; exact nI_le (Nat.le_refl _) (by omega))))
    refine gx_aload_n dX6_works_148 rfl ?_
    refine gx_iload_n dX6_works_149 rfl ?_
    refine gx_iload_n dX6_works_150 rfl ?_
    refine gx_invV dX6_works_151 wm_X6_152 gt_X6_workOut wy_X6_workOut wl_X6_workOut (ci := 6) rfl rfl (gs_g6 R hm) (As := [.int (nI g), .int (nI o)]) (rest := []) rfl rfl (Nat.le_of_ble_eq_true rfl) (by decide) (cc_X6_workOut R hm V (g := g) (o := o) hg4 ho) (fun r1 h q1 => ?_)
    obtain ⟨R, hs0, rfl⟩ := q1
    show gx_Ev _ _ _ _ _ [] _ _
    refine gx_iconst dX6_works_154 (v := 1) (by decide) ?_
    refine gx_ireturn dX6_works_155 ?_
    exact ⟨⟨_, rfl, rfl⟩, R, (gs_sm.rfl.trans hs0), rfl⟩
  | succ m ih =>
    intro q hk
    have h40 := gv_n4 V
    have hqn : q < σ.1 100 0 0 := by omega
    refine gx_iload dX6_works_100 rfl ?_
    refine gx_aload_n dX6_works_102 rfl ?_
    refine gx_get dX6_works_103 gf_X6_101 (gs_g6 R hm) (v := .int (nI (σ.1 100 0 0))) (rfl) ?_
    refine gx_icmp_ge dX6_works_106 (tgt := 148) (by decide) (fun hc0 => absurd hc0 (nI_ge (by omega) (by omega))) (fun hc0 => ?_)
    refine gx_iload dX6_works_109 rfl ?_
    refine gx_iload_n dX6_works_111 rfl ?_
    refine gx_icmp_eq dX6_works_112 (tgt := 142) (by decide) (fun hc1 => ?_) (fun hc1 => ?_)
    · have hc1 := (nI_eq (by omega) (by omega)).mp hc1
      refine gx_iinc dX6_works_142 rfl (v := nI (q + 1)) (nI_1 _) (by decide) rfl (L' := [some (.ref (A 6 0 0)), some (.int (nI g)), w2, some (.int (nI o)), some (.int (nI (q + 1)))]) rfl ?_
      refine gx_goto dX6_works_145 (tgt := 100) (by decide) ?_
      have e9 : sm_wb σ g o (m + 1) q = sm_wb σ g o m (q + 1) := by rw [sm_wb, if_neg (fun z => z.1 hc1)]
      rw [e9]
      exact ih (q + 1) (by omega)
    · have hc1 : ¬ q = g := fun z => hc1 (congrArg nI z)
      refine gx_aload_n dX6_works_115 rfl ?_
      refine gx_iload dX6_works_116 rfl ?_
      refine gx_iload_n dX6_works_118 rfl ?_
      refine gx_invV dX6_works_119 wm_X6_112 gt_X6_isOf wy_X6_isOf wl_X6_isOf (ci := 6) rfl rfl (gs_g6 R hm) (As := [.int (nI q), .int (nI o)]) (rest := []) rfl rfl (Nat.le_of_ble_eq_true rfl) (by decide) (cc_X6_isOf R hm V (g := q) (o := o) (by omega) (ho)) (fun r1 h q1 => ?_)
      obtain ⟨rfl, rfl⟩ := q1
      show gx_Ev _ _ _ _ _ [.int (gs_bi (gv_of σ q o))] _ _
      refine gx_if_eq dX6_works_122 (tgt := 142) (by decide) (fun hc2 => ?_) (fun hc2 => ?_)
      · have hc2 := gs_b0 hc2
        refine gx_iinc dX6_works_142 rfl (v := nI (q + 1)) (nI_1 _) (by decide) rfl (L' := [some (.ref (A 6 0 0)), some (.int (nI g)), w2, some (.int (nI o)), some (.int (nI (q + 1)))]) rfl ?_
        refine gx_goto dX6_works_145 (tgt := 100) (by decide) ?_
        have e9 : sm_wb σ g o (m + 1) q = sm_wb σ g o m (q + 1) := by rw [sm_wb, if_neg (fun z => hc2 z.2.1)]
        rw [e9]
        exact ih (q + 1) (by omega)
      · have hc2 := gs_b1 hc2
        refine gx_aload_n dX6_works_125 rfl ?_
        refine gx_get dX6_works_126 gf_X6_65 (gs_g6 R hm) (v := .ref (A 40 0 0)) (rfl) ?_
        refine gx_iload_n dX6_works_129 rfl ?_
        refine gx_iload_n dX6_works_130 rfl ?_
        refine gx_iload dX6_works_131 rfl ?_
        refine gx_invS dX6_works_133 wm_X6_131 gt_X6_of ws_X6_of (As := [.int (nI g), .int (nI o), .int (nI q)]) (rest := [.ref (A 40 0 0)]) rfl rfl (Nat.le_of_ble_eq_true rfl) (by decide) (cc_X6_ofE (g := g) (o := o) (q := q) (rfl) (rfl) (rfl)) (fun r1 h q1 => ?_)
        obtain ⟨rfl, rfl⟩ := q1
        show gx_Ev _ _ _ _ _ [.int (nI (4 * (40 * g + o) + q)), .ref (A 40 0 0)] _ _
        refine gq_40 dX6_works_136 R hm (q := 4 * (40 * g + o) + q) (rfl) (by omega) (v := σ.2.1 120 (4 * (40 * g + o) + q) 0) (rfl) ?_
        refine gx_if_ne dX6_works_137 (tgt := 142) (by decide) (fun hc3 => ?_) (fun hc3 => ?_)
        · refine gx_iinc dX6_works_142 rfl (v := nI (q + 1)) (nI_1 _) (by decide) rfl (L' := [some (.ref (A 6 0 0)), some (.int (nI g)), w2, some (.int (nI o)), some (.int (nI (q + 1)))]) rfl ?_
          refine gx_goto dX6_works_145 (tgt := 100) (by decide) ?_
          have e9 : sm_wb σ g o (m + 1) q = sm_wb σ g o m (q + 1) := by rw [sm_wb, if_neg (fun z => hc3 z.2.2)]
          rw [e9]
          exact ih (q + 1) (by omega)
        · refine gx_iconst dX6_works_140 (v := 0) (by decide) ?_
          refine gx_ireturn dX6_works_141 ?_
          have e9 : sm_wb σ g o (m + 1) q = false := by rw [sm_wb, if_pos ⟨hc1, hc2, hc3⟩]
          rw [e9]
          exact ⟨⟨_, rfl, rfl⟩, R, gs_sm.rfl, rfl⟩
set_option maxHeartbeats 4000000 in
theorem cc_X6_works {S : gx_S} {h : gx_H} {σ : gs_T} {A : gs_A} (R : gs_R h σ A) (hm : σ.1 31 0 0 = 1) (V : gv_V σ) {g : Nat} (hg4 : g < 4) (hg : g < σ.1 100 0 0) (hF : σ.1 125 0 0 + 4 ≤ 400) : gx_Cn S gm_X6_works 4 [.ref (A 6 0 0), .int (nI g)] h (fun r h' => gs_R h' (sm_ws σ g) A ∧ gs_sm h h' ∧ r = some (.int (sm_wr σ g))) := by
  refine gx_Cn.of gt_X6_works (by simp [Value.category]) (Nat.le_of_ble_eq_true rfl) ?_
  show gx_Ev S gm_X6_works 4 0 [some (.ref (A 6 0 0)), some (.int (nI g)), none, none, none] [] h _
  refine gx_iconst dX6_works_0 (v := 0) (by decide) ?_
  refine gx_istore_n dX6_works_1 (by decide) rfl (L' := [some (.ref (A 6 0 0)), some (.int (nI g)), some (.int 0), none, none]) rfl ?_
  refine cl_w1 R hm V hg4 none none _ 0 (Nat.zero_add _) ?_
  have hle := sm_wk_le σ g (σ.1 123 g 0) 0
  have h40 := gv_tc V g
  have hrow := gv_tr V (40 * g + sm_wx σ g)
  show gx_Ev S gm_X6_works 4 40 [some (.ref (A 6 0 0)), some (.int (nI g)), some (.int (nI (sm_wx σ g))), none, none] [] h _
  have hle : sm_wx σ g ≤ σ.1 123 g 0 := by rw [sm_wx]; omega
  refine gx_iload_n dX6_works_40 rfl ?_
  refine gx_aload_n dX6_works_41 rfl ?_
  refine gx_get dX6_works_42 gf_X6_74 (gs_g6 R hm) (v := .ref (A 43 0 0)) (rfl) ?_
  refine gx_iload_n dX6_works_45 rfl ?_
  refine gq_43 dX6_works_46 R hm (q := g) (rfl) (by omega) (v := nI (σ.1 123 g 0)) (rfl) ?_
  refine gx_icmp_ne dX6_works_47 (tgt := 52) (by decide) (fun hc1 => ?_) (fun hc1 => ?_)
  · have hc1 : ¬ sm_wx σ g = σ.1 123 g 0 := fun z => hc1 (congrArg nI z)
    refine gx_aload_n dX6_works_52 rfl ?_
    refine gx_get dX6_works_53 gf_X6_77 (gs_g6 R hm) (v := .ref (A 44 0 0)) (rfl) ?_
    refine gx_iload_n dX6_works_56 rfl ?_
    refine gx_iload_n dX6_works_57 rfl ?_
    refine gx_invS dX6_works_58 wm_X6_105 gt_X6_at ws_X6_at (As := [.int (nI g), .int (nI (sm_wx σ g))]) (rest := [.ref (A 44 0 0)]) rfl rfl (Nat.le_of_ble_eq_true rfl) (by decide) (cc_X6_atE (g := g) (o := sm_wx σ g) (rfl) (rfl)) (fun r1 h q1 => ?_)
    obtain ⟨rfl, rfl⟩ := q1
    show gx_Ev _ _ _ _ _ [.int (nI (40 * g + (sm_wx σ g))), .ref (A 44 0 0)] _ _
    refine gq_44 dX6_works_61 R hm (q := 40 * g + (sm_wx σ g)) (rfl) (by omega) (v := nI (σ.1 124 (40 * g + (sm_wx σ g)) 0)) (rfl) ?_
    refine gx_istore_n dX6_works_62 (by decide) rfl (L' := [some (.ref (A 6 0 0)), some (.int (nI g)), some (.int (nI (sm_wx σ g))), some (.int (nI (σ.1 124 (40 * g + (sm_wx σ g)) 0))), none]) rfl ?_
    refine gx_aload_n dX6_works_63 rfl ?_
    refine gx_get dX6_works_64 gf_X6_56 (gs_g6 R hm) (v := .ref (A 37 0 0)) (rfl) ?_
    refine gx_iload_n dX6_works_67 rfl ?_
    refine gx_iload_n dX6_works_68 rfl ?_
    refine gx_invS dX6_works_69 wm_X6_105 gt_X6_at ws_X6_at (As := [.int (nI g), .int (nI (σ.1 124 (40 * g + (sm_wx σ g)) 0))]) (rest := [.ref (A 37 0 0)]) rfl rfl (Nat.le_of_ble_eq_true rfl) (by decide) (cc_X6_atE (g := g) (o := σ.1 124 (40 * g + (sm_wx σ g)) 0) (rfl) (rfl)) (fun r1 h q1 => ?_)
    obtain ⟨rfl, rfl⟩ := q1
    show gx_Ev _ _ _ _ _ [.int (nI (40 * g + (σ.1 124 (40 * g + (sm_wx σ g)) 0))), .ref (A 37 0 0)] _ _
    refine gq_37 dX6_works_72 R hm (q := 40 * g + (σ.1 124 (40 * g + (sm_wx σ g)) 0)) (rfl) (by omega) (v := σ.2.1 117 (40 * g + (σ.1 124 (40 * g + (sm_wx σ g)) 0)) 0) (rfl) ?_
    refine gx_if_ne dX6_works_73 (tgt := 97) (by decide) (fun hc2 => ?_) (fun hc2 => ?_)
    · have hc2 : ¬ σ.2.1 117 (40 * g + sm_wo_ σ g) 0 = 0 := hc2
      refine gx_iconst dX6_works_97 (v := 0) (by decide) ?_
      refine gx_istore dX6_works_98 (by decide) rfl (L' := [some (.ref (A 6 0 0)), some (.int (nI g)), some (.int (nI (sm_wx σ g))), some (.int (nI (σ.1 124 (40 * g + (sm_wx σ g)) 0))), some (.int 0)]) rfl ?_
      have k := cl_w2 (S := S) R hm V hg4 hrow (some (.int (nI (sm_wx σ g)))) _ 0 (Nat.zero_add _)
      refine k.mono (fun r h9 hq9 => ⟨hq9.1, ?_, hq9.2.2.1, ?_⟩)
      · rw [sm_ws, if_neg hc1, if_neg hc2]; exact hq9.2.1
      · rw [sm_wr, if_neg hc1, if_neg hc2]; exact hq9.2.2.2
    · have hc2 : σ.2.1 117 (40 * g + sm_wo_ σ g) 0 = 0 := hc2
      refine gx_aload_n dX6_works_76 rfl ?_
      refine gx_get dX6_works_77 gf_X6_56 (gs_g6 R hm) (v := .ref (A 37 0 0)) (rfl) ?_
      refine gx_iload_n dX6_works_80 rfl ?_
      refine gx_iload_n dX6_works_81 rfl ?_
      refine gx_invS dX6_works_82 wm_X6_105 gt_X6_at ws_X6_at (As := [.int (nI g), .int (nI (σ.1 124 (40 * g + (sm_wx σ g)) 0))]) (rest := [.ref (A 37 0 0)]) rfl rfl (Nat.le_of_ble_eq_true rfl) (by decide) (cc_X6_atE (g := g) (o := σ.1 124 (40 * g + (sm_wx σ g)) 0) (rfl) (rfl)) (fun r1 h q1 => ?_)
      obtain ⟨rfl, rfl⟩ := q1
      show gx_Ev _ _ _ _ _ [.int (nI (40 * g + (σ.1 124 (40 * g + (sm_wx σ g)) 0))), .ref (A 37 0 0)] _ _
      refine gx_iconst dX6_works_85 (v := 1) (by decide) ?_
      refine ga_I117 (σ := σ) hm dX6_works_86 R (by first | exact Or.inl rfl | exact Or.inr rfl) (q := 40 * g + (σ.1 124 (40 * g + (sm_wx σ g)) 0)) (v := 1) (rfl) (by omega) (fun h R hs0 => ?_)
      refine gx_aload_n dX6_works_87 rfl ?_
      refine gx_iconst dX6_works_88 (v := 2) (by decide) ?_
      refine gx_iload_n dX6_works_89 rfl ?_
      refine gx_iload_n dX6_works_90 rfl ?_
      refine gx_iconst dX6_works_91 (v := (-1)) (by decide) ?_
      refine gx_invV dX6_works_92 wm_X6_127 gt_X6_putOthers wy_X6_putOthers wl_X6_putOthers (ci := 6) rfl rfl (gs_g6 R hm) (As := [.int 2, .int (nI (σ.1 124 (40 * g + (sm_wx σ g)) 0)), .int (nI g), .int (-1)]) (rest := []) rfl rfl (Nat.le_of_ble_eq_true rfl) (by decide) (cc_X6_putOthers R hm V 2 (o := σ.1 124 (40 * g + (sm_wx σ g)) 0) (f := g + 1) (-1) (hrow) (hg) (hF)) (fun r1 h q1 => ?_)
      obtain ⟨R, hs1, rfl⟩ := q1
      show gx_Ev _ _ _ _ _ [] _ _
      refine gx_iconst dX6_works_95 (v := 1) (by decide) ?_
      refine gx_ireturn dX6_works_96 ?_
      exact ⟨⟨_, rfl, rfl⟩, by rw [sm_ws, if_neg hc1, if_pos hc2]; exact R, ((gs_sm.rfl.trans hs0).trans hs1), by rw [sm_wr, if_neg hc1, if_pos hc2]⟩
  · have hc1 := (nI_eq (by omega) (by omega)).mp hc1
    refine gx_iconst dX6_works_50 (v := 0) (by decide) ?_
    refine gx_ireturn dX6_works_51 ?_
    exact ⟨⟨_, rfl, rfl⟩, by rw [sm_ws, if_pos hc1]; exact R, gs_sm.rfl, by rw [sm_wr, if_pos hc1]⟩
