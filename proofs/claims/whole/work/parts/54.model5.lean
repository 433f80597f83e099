/-! the reference: makesFinal -/
def sm_ga (σ : gs_T) (g o q : Nat) : Int32 × Int32 := match q with
  | 0 => (0, 1)
  | q + 1 => if gv_of σ q o then (if σ.2.1 119 (4 * (40 * g + o) + q) 0 ≤ (sm_ga σ g o q).1 then (sm_ga σ g o q).1 else σ.2.1 119 (4 * (40 * g + o) + q) 0, if (sm_ga σ g o q).2 = 0 then 0 else if σ.2.1 119 (4 * (40 * g + o) + q) 0 ≤ 0 then 0 else 1) else sm_ga σ g o q
set_option maxHeartbeats 4000000 in
theorem cl_mf_in {S : gx_S} {h : gx_H} {σ : gs_T} {A : gs_A} (R : gs_R h σ A) (hm : σ.1 31 0 0 = 1) (V : gv_V σ) {g o : Nat} (hg4 : g < 4) (ho : o < 40) {Q : Option Value → gx_H → Prop} (K : ∀ w, gx_Ev S gm_X6_makesFinal 3 113 [some (.ref (A 6 0 0)), some (.int (nI g)), some (.int (nI o)), some (.int ((sm_ga σ g o (σ.1 100 0 0)).1)), some (.int ((sm_ga σ g o (σ.1 100 0 0)).2)), some (.int (nI (σ.1 100 0 0))), w] [] h Q) : ∀ (m q : Nat) (w6 : Option Value), q + m = σ.1 100 0 0 → gx_Ev S gm_X6_makesFinal 3 44 [some (.ref (A 6 0 0)), some (.int (nI g)), some (.int (nI o)), some (.int ((sm_ga σ g o q).1)), some (.int ((sm_ga σ g o q).2)), some (.int (nI q)), w6] [] h Q := by
  intro m
  induction m with
  | zero =>
    intro q w6 hq
    have hqn : q = σ.1 100 0 0 := by omega
    refine gx_iload dX6_makesFinal_44 rfl ?_
    refine gx_aload_n dX6_makesFinal_46 rfl ?_
    refine gx_get dX6_makesFinal_47 gf_X6_101 (gs_g6 R hm) (v := .int (nI (σ.1 100 0 0))) (rfl) ?_
    refine gx_icmp_ge dX6_makesFinal_50 (tgt := 113) (by decide) (fun hc1 => ?_) (fun hc1 => absurd hc1 (fun z => z (by rw [hqn]; exact nI_le (Nat.le_refl _) (by have := gv_n4 V; omega))))
    have k := K w6
    rw [← hqn] at k
    exact k
  | succ m ih =>
    intro q w6 hq
    have hqn : q < σ.1 100 0 0 := by omega
    have hn4 := gv_n4 V
    refine gx_iload dX6_makesFinal_44 rfl ?_
    refine gx_aload_n dX6_makesFinal_46 rfl ?_
    refine gx_get dX6_makesFinal_47 gf_X6_101 (gs_g6 R hm) (v := .int (nI (σ.1 100 0 0))) (rfl) ?_
    refine gx_icmp_ge dX6_makesFinal_50 (tgt := 113) (by decide) (fun hc0 => absurd hc0 (nI_ge (by omega) (by omega))) (fun hc0 => ?_)
    refine gx_aload_n dX6_makesFinal_53 rfl ?_
    refine gx_iload dX6_makesFinal_54 rfl ?_
    refine gx_iload_n dX6_makesFinal_56 rfl ?_
    refine gx_invV dX6_makesFinal_57 wm_X6_112 gt_X6_isOf wy_X6_isOf wl_X6_isOf (ci := 6) rfl rfl (gs_g6 R hm) (As := [.int (nI q), .int (nI o)]) (rest := []) rfl rfl (Nat.le_of_ble_eq_true rfl) (by decide) (cc_X6_isOf R hm V (g := q) (o := o) (by omega) (ho)) (fun r1 h q1 => ?_)
    obtain ⟨rfl, rfl⟩ := q1
    show gx_Ev _ _ _ _ _ [.int (gs_bi (gv_of σ q o))] _ _
    refine gx_if_eq dX6_makesFinal_60 (tgt := 107) (by decide) (fun hc1 => ?_) (fun hc1 => ?_)
    · have hc1 := gs_b0 hc1
      refine gx_iinc dX6_makesFinal_107 rfl (v := nI (q + 1)) (nI_1 _) (by decide) rfl (L' := [some (.ref (A 6 0 0)), some (.int (nI g)), some (.int (nI o)), some (.int ((sm_ga σ g o q).1)), some (.int ((sm_ga σ g o q).2)), some (.int (nI (q + 1))), w6]) rfl ?_
      refine gx_goto dX6_makesFinal_110 (tgt := 44) (by decide) ?_
      have e9 : sm_ga σ g o (q + 1) = sm_ga σ g o q := by rw [sm_ga, if_neg hc1]
      have k := ih (q + 1) (w6) (by omega)
      rw [e9] at k
      exact k
    · have hc1 := gs_b1 hc1
      refine gx_aload_n dX6_makesFinal_63 rfl ?_
      refine gx_get dX6_makesFinal_64 gf_X6_62 (gs_g6 R hm) (v := .ref (A 39 0 0)) (rfl) ?_
      refine gx_iload_n dX6_makesFinal_67 rfl ?_
      refine gx_iload_n dX6_makesFinal_68 rfl ?_
      refine gx_iload dX6_makesFinal_69 rfl ?_
      refine gx_invS dX6_makesFinal_71 wm_X6_131 gt_X6_of ws_X6_of (As := [.int (nI g), .int (nI o), .int (nI q)]) (rest := [.ref (A 39 0 0)]) rfl rfl (Nat.le_of_ble_eq_true rfl) (by decide) (cc_X6_ofE (g := g) (o := o) (q := q) (rfl) (rfl) (rfl)) (fun r1 h q1 => ?_)
      obtain ⟨rfl, rfl⟩ := q1
      show gx_Ev _ _ _ _ _ [.int (nI (4 * (40 * g + o) + q)), .ref (A 39 0 0)] _ _
      refine gq_39 dX6_makesFinal_74 R hm (q := 4 * (40 * g + o) + q) (rfl) (by omega) (v := σ.2.1 119 (4 * (40 * g + o) + q) 0) (rfl) ?_
      refine gx_istore dX6_makesFinal_75 (by decide) rfl (L' := [some (.ref (A 6 0 0)), some (.int (nI g)), some (.int (nI o)), some (.int ((sm_ga σ g o q).1)), some (.int ((sm_ga σ g o q).2)), some (.int (nI q)), some (.int (σ.2.1 119 (4 * (40 * g + o) + q) 0))]) rfl ?_
      refine gx_iload dX6_makesFinal_77 rfl ?_
      refine gx_if_eq dX6_makesFinal_79 (tgt := 91) (by decide) (fun hc2 => ?_) (fun hc2 => ?_)
      · refine gx_iconst dX6_makesFinal_91 (v := 0) (by decide) ?_
        refine gx_istore dX6_makesFinal_92 (by decide) rfl (L' := [some (.ref (A 6 0 0)), some (.int (nI g)), some (.int (nI o)), some (.int ((sm_ga σ g o q).1)), some (.int 0), some (.int (nI q)), some (.int (σ.2.1 119 (4 * (40 * g + o) + q) 0))]) rfl ?_
        refine gx_iload dX6_makesFinal_94 rfl ?_
        refine gx_iload_n dX6_makesFinal_96 rfl ?_
        refine gx_icmp_le dX6_makesFinal_97 (tgt := 105) (by decide) (fun hc4 => ?_) (fun hc4 => ?_)
        · refine gx_iload_n dX6_makesFinal_105 rfl ?_
          refine gx_istore_n dX6_makesFinal_106 (by decide) rfl (L' := [some (.ref (A 6 0 0)), some (.int (nI g)), some (.int (nI o)), some (.int ((sm_ga σ g o q).1)), some (.int 0), some (.int (nI q)), some (.int (σ.2.1 119 (4 * (40 * g + o) + q) 0))]) rfl ?_
          refine gx_iinc dX6_makesFinal_107 rfl (v := nI (q + 1)) (nI_1 _) (by decide) rfl (L' := [some (.ref (A 6 0 0)), some (.int (nI g)), some (.int (nI o)), some (.int ((sm_ga σ g o q).1)), some (.int 0), some (.int (nI (q + 1))), some (.int (σ.2.1 119 (4 * (40 * g + o) + q) 0))]) rfl ?_
          refine gx_goto dX6_makesFinal_110 (tgt := 44) (by decide) ?_
          have e9 : sm_ga σ g o (q + 1) = ((sm_ga σ g o q).1, 0) := by rw [sm_ga, if_pos hc1]; simp [hc2, hc4]
          have k := ih (q + 1) (some (.int (σ.2.1 119 (4 * (40 * g + o) + q) 0))) (by omega)
          rw [e9] at k
          exact k
        · refine gx_iload dX6_makesFinal_100 rfl ?_
          refine gx_goto dX6_makesFinal_102 (tgt := 106) (by decide) ?_
          refine gx_istore_n dX6_makesFinal_106 (by decide) rfl (L' := [some (.ref (A 6 0 0)), some (.int (nI g)), some (.int (nI o)), some (.int (σ.2.1 119 (4 * (40 * g + o) + q) 0)), some (.int 0), some (.int (nI q)), some (.int (σ.2.1 119 (4 * (40 * g + o) + q) 0))]) rfl ?_
          refine gx_iinc dX6_makesFinal_107 rfl (v := nI (q + 1)) (nI_1 _) (by decide) rfl (L' := [some (.ref (A 6 0 0)), some (.int (nI g)), some (.int (nI o)), some (.int (σ.2.1 119 (4 * (40 * g + o) + q) 0)), some (.int 0), some (.int (nI (q + 1))), some (.int (σ.2.1 119 (4 * (40 * g + o) + q) 0))]) rfl ?_
          refine gx_goto dX6_makesFinal_110 (tgt := 44) (by decide) ?_
          have e9 : sm_ga σ g o (q + 1) = (σ.2.1 119 (4 * (40 * g + o) + q) 0, 0) := by rw [sm_ga, if_pos hc1]; simp [hc2, hc4]
          have k := ih (q + 1) (some (.int (σ.2.1 119 (4 * (40 * g + o) + q) 0))) (by omega)
          rw [e9] at k
          exact k
      · refine gx_iload dX6_makesFinal_82 rfl ?_
        refine gx_if_le dX6_makesFinal_84 (tgt := 91) (by decide) (fun hc3 => ?_) (fun hc3 => ?_)
        · refine gx_iconst dX6_makesFinal_91 (v := 0) (by decide) ?_
          refine gx_istore dX6_makesFinal_92 (by decide) rfl (L' := [some (.ref (A 6 0 0)), some (.int (nI g)), some (.int (nI o)), some (.int ((sm_ga σ g o q).1)), some (.int 0), some (.int (nI q)), some (.int (σ.2.1 119 (4 * (40 * g + o) + q) 0))]) rfl ?_
          refine gx_iload dX6_makesFinal_94 rfl ?_
          refine gx_iload_n dX6_makesFinal_96 rfl ?_
          refine gx_icmp_le dX6_makesFinal_97 (tgt := 105) (by decide) (fun hc4 => ?_) (fun hc4 => ?_)
          · refine gx_iload_n dX6_makesFinal_105 rfl ?_
            refine gx_istore_n dX6_makesFinal_106 (by decide) rfl (L' := [some (.ref (A 6 0 0)), some (.int (nI g)), some (.int (nI o)), some (.int ((sm_ga σ g o q).1)), some (.int 0), some (.int (nI q)), some (.int (σ.2.1 119 (4 * (40 * g + o) + q) 0))]) rfl ?_
            refine gx_iinc dX6_makesFinal_107 rfl (v := nI (q + 1)) (nI_1 _) (by decide) rfl (L' := [some (.ref (A 6 0 0)), some (.int (nI g)), some (.int (nI o)), some (.int ((sm_ga σ g o q).1)), some (.int 0), some (.int (nI (q + 1))), some (.int (σ.2.1 119 (4 * (40 * g + o) + q) 0))]) rfl ?_
            refine gx_goto dX6_makesFinal_110 (tgt := 44) (by decide) ?_
            have e9 : sm_ga σ g o (q + 1) = ((sm_ga σ g o q).1, 0) := by rw [sm_ga, if_pos hc1]; simp [hc2, hc3, hc4]
            have k := ih (q + 1) (some (.int (σ.2.1 119 (4 * (40 * g + o) + q) 0))) (by omega)
            rw [e9] at k
            exact k
          · refine gx_iload dX6_makesFinal_100 rfl ?_
            refine gx_goto dX6_makesFinal_102 (tgt := 106) (by decide) ?_
            refine gx_istore_n dX6_makesFinal_106 (by decide) rfl (L' := [some (.ref (A 6 0 0)), some (.int (nI g)), some (.int (nI o)), some (.int (σ.2.1 119 (4 * (40 * g + o) + q) 0)), some (.int 0), some (.int (nI q)), some (.int (σ.2.1 119 (4 * (40 * g + o) + q) 0))]) rfl ?_
            refine gx_iinc dX6_makesFinal_107 rfl (v := nI (q + 1)) (nI_1 _) (by decide) rfl (L' := [some (.ref (A 6 0 0)), some (.int (nI g)), some (.int (nI o)), some (.int (σ.2.1 119 (4 * (40 * g + o) + q) 0)), some (.int 0), some (.int (nI (q + 1))), some (.int (σ.2.1 119 (4 * (40 * g + o) + q) 0))]) rfl ?_
            refine gx_goto dX6_makesFinal_110 (tgt := 44) (by decide) ?_
            have e9 : sm_ga σ g o (q + 1) = (σ.2.1 119 (4 * (40 * g + o) + q) 0, 0) := by rw [sm_ga, if_pos hc1]; simp [hc2, hc3, hc4]
            have k := ih (q + 1) (some (.int (σ.2.1 119 (4 * (40 * g + o) + q) 0))) (by omega)
            rw [e9] at k
            exact k
        · refine gx_iconst dX6_makesFinal_87 (v := 1) (by decide) ?_
          refine gx_goto dX6_makesFinal_88 (tgt := 92) (by decide) ?_
          refine gx_istore dX6_makesFinal_92 (by decide) rfl (L' := [some (.ref (A 6 0 0)), some (.int (nI g)), some (.int (nI o)), some (.int ((sm_ga σ g o q).1)), some (.int 1), some (.int (nI q)), some (.int (σ.2.1 119 (4 * (40 * g + o) + q) 0))]) rfl ?_
          refine gx_iload dX6_makesFinal_94 rfl ?_
          refine gx_iload_n dX6_makesFinal_96 rfl ?_
          refine gx_icmp_le dX6_makesFinal_97 (tgt := 105) (by decide) (fun hc4 => ?_) (fun hc4 => ?_)
          · refine gx_iload_n dX6_makesFinal_105 rfl ?_
            refine gx_istore_n dX6_makesFinal_106 (by decide) rfl (L' := [some (.ref (A 6 0 0)), some (.int (nI g)), some (.int (nI o)), some (.int ((sm_ga σ g o q).1)), some (.int 1), some (.int (nI q)), some (.int (σ.2.1 119 (4 * (40 * g + o) + q) 0))]) rfl ?_
            refine gx_iinc dX6_makesFinal_107 rfl (v := nI (q + 1)) (nI_1 _) (by decide) rfl (L' := [some (.ref (A 6 0 0)), some (.int (nI g)), some (.int (nI o)), some (.int ((sm_ga σ g o q).1)), some (.int 1), some (.int (nI (q + 1))), some (.int (σ.2.1 119 (4 * (40 * g + o) + q) 0))]) rfl ?_
            refine gx_goto dX6_makesFinal_110 (tgt := 44) (by decide) ?_
            have e9 : sm_ga σ g o (q + 1) = ((sm_ga σ g o q).1, 1) := by rw [sm_ga, if_pos hc1]; simp [hc2, hc3, hc4]
            have k := ih (q + 1) (some (.int (σ.2.1 119 (4 * (40 * g + o) + q) 0))) (by omega)
            rw [e9] at k
            exact k
          · refine gx_iload dX6_makesFinal_100 rfl ?_
            refine gx_goto dX6_makesFinal_102 (tgt := 106) (by decide) ?_
            refine gx_istore_n dX6_makesFinal_106 (by decide) rfl (L' := [some (.ref (A 6 0 0)), some (.int (nI g)), some (.int (nI o)), some (.int (σ.2.1 119 (4 * (40 * g + o) + q) 0)), some (.int 1), some (.int (nI q)), some (.int (σ.2.1 119 (4 * (40 * g + o) + q) 0))]) rfl ?_
            refine gx_iinc dX6_makesFinal_107 rfl (v := nI (q + 1)) (nI_1 _) (by decide) rfl (L' := [some (.ref (A 6 0 0)), some (.int (nI g)), some (.int (nI o)), some (.int (σ.2.1 119 (4 * (40 * g + o) + q) 0)), some (.int 1), some (.int (nI (q + 1))), some (.int (σ.2.1 119 (4 * (40 * g + o) + q) 0))]) rfl ?_
            refine gx_goto dX6_makesFinal_110 (tgt := 44) (by decide) ?_
            have e9 : sm_ga σ g o (q + 1) = (σ.2.1 119 (4 * (40 * g + o) + q) 0, 1) := by rw [sm_ga, if_pos hc1]; simp [hc2, hc3, hc4]
            have k := ih (q + 1) (some (.int (σ.2.1 119 (4 * (40 * g + o) + q) 0))) (by omega)
            rw [e9] at k
            exact k
abbrev sm_mfc (σ : gs_T) (g o : Nat) : Prop := ¬ σ.2.1 114 (40 * g + o) 0 = 0 ∧ σ.2.1 115 (40 * g + o) 0 = 0 ∧ ¬ (sm_ga σ g o (σ.1 100 0 0)).2 = 0
def sm_mf (σ : gs_T) (g m o : Nat) : Option Nat := match m with
  | 0 => none
  | m + 1 => if sm_mfc σ g o then some o else sm_mf σ g m (o + 1)
def gs_mg (c G : Int32) : Int32 := if G ≤ c then c else G
def sm_mf1 (σ : gs_T) (g o : Nat) : gs_T := gs_i (gs_i σ 115 (40 * g + o) 0 (sm_ga σ g o (σ.1 100 0 0)).1) 101 g 0 (gs_mg (σ.2.1 101 g 0) (sm_ga σ g o (σ.1 100 0 0)).1)
def sm_mfs (σ : gs_T) (g : Nat) (r : Option Nat) : gs_T := match r with
  | none => σ
  | some o => sm_mf1 σ g o
def sm_mfr (r : Option Nat) : Int32 := match r with
  | none => 0
  | some _ => 1
set_option maxHeartbeats 4000000 in
theorem cl_mf {S : gx_S} {h : gx_H} {σ : gs_T} {A : gs_A} (R : gs_R h σ A) (hm : σ.1 31 0 0 = 1) (V : gv_V σ) {g : Nat} (hg4 : g < 4) : ∀ (m o : Nat) (w3 w4 w5 w6 : Option Value), o + m = σ.1 104 0 0 → gx_ok [none, none, none, w3] 4 = true → gx_ok [none, none, none, none, w4] 5 = true → gx_ok [none, none, none, none, none, w5] 6 = true → gx_Ev S gm_X6_makesFinal 3 2 [some (.ref (A 6 0 0)), some (.int (nI g)), some (.int (nI o)), w3, w4, w5, w6] [] h (fun r h' => gx_rt (some .boolean) r ∧ gs_R h' (sm_mfs σ g (sm_mf σ g m o)) A ∧ gs_sm h h' ∧ r = some (.int (sm_mfr (sm_mf σ g m o)))) := by
  intro m
  induction m with
  | zero =>
    intro o w3 w4 w5 w6 hq g3 g4 g5
    have hqn : o = σ.1 104 0 0 := by omega
    have hc40 := gv_cnt V
    refine gx_iload_n dX6_makesFinal_2 rfl ?_
    refine gx_aload_n dX6_makesFinal_3 rfl ?_
    refine gx_get dX6_makesFinal_4 gf_X6_124 (gs_g6 R hm) (v := .int (nI (σ.1 104 0 0))) (rfl) ?_
    refine gx_icmp_ge dX6_makesFinal_7 (tgt := 163) (by decide) (fun hc1 => ?_) (fun hc1 => absurd hc1 (fun z => z (by rw [hqn]; exact nI_le (Nat.le_refl _) (by omega))))
    refine gx_iconst dX6_makesFinal_163 (v := 0) (by decide) ?_
    refine gx_ireturn dX6_makesFinal_164 ?_
    exact ⟨⟨_, rfl, rfl⟩, R, gs_sm.rfl, rfl⟩
  | succ m ih =>
    intro o w3 w4 w5 w6 hq g3 g4 g5
    have hc40 := gv_cnt V
    have hqn : o < σ.1 104 0 0 := by omega
    have ho : o < 40 := by omega
    refine gx_iload_n dX6_makesFinal_2 rfl ?_
    refine gx_aload_n dX6_makesFinal_3 rfl ?_
    refine gx_get dX6_makesFinal_4 gf_X6_124 (gs_g6 R hm) (v := .int (nI (σ.1 104 0 0))) (rfl) ?_
    refine gx_icmp_ge dX6_makesFinal_7 (tgt := 163) (by decide) (fun hc0 => absurd hc0 (nI_ge (by omega) (by omega))) (fun hc0 => ?_)
    refine gx_aload_n dX6_makesFinal_10 rfl ?_
    refine gx_get dX6_makesFinal_11 gf_X6_47 (gs_g6 R hm) (v := .ref (A 34 0 0)) (rfl) ?_
    refine gx_iload_n dX6_makesFinal_14 rfl ?_
    refine gx_iload_n dX6_makesFinal_15 rfl ?_
    refine gx_invS dX6_makesFinal_16 wm_X6_105 gt_X6_at ws_X6_at (As := [.int (nI g), .int (nI o)]) (rest := [.ref (A 34 0 0)]) rfl rfl (Nat.le_of_ble_eq_true rfl) (by decide) (cc_X6_atE (g := g) (o := o) (rfl) (rfl)) (fun r1 h q1 => ?_)
    obtain ⟨rfl, rfl⟩ := q1
    show gx_Ev _ _ _ _ _ [.int (nI (40 * g + o)), .ref (A 34 0 0)] _ _
    refine gq_34 dX6_makesFinal_19 R hm (q := 40 * g + o) (rfl) (by omega) (v := σ.2.1 114 (40 * g + o) 0) (rfl) ?_
    refine gx_if_eq dX6_makesFinal_20 (tgt := 157) (by decide) (fun hc1 => ?_) (fun hc1 => ?_)
    · refine gx_iinc dX6_makesFinal_157 rfl (v := nI (o + 1)) (nI_1 _) (by decide) rfl (L' := [some (.ref (A 6 0 0)), some (.int (nI g)), some (.int (nI (o + 1))), w3, w4, w5, w6]) rfl ?_
      refine gx_goto dX6_makesFinal_160 (tgt := 2) (by decide) ?_
      have e9 : sm_mf σ g (m + 1) o = sm_mf σ g m (o + 1) := by rw [sm_mf, if_neg (fun z => z.1 hc1)]
      rw [e9]
      exact ih (o + 1) (w3) (w4) (w5) (w6) (by omega) g3 g4 g5
    · refine gx_aload_n dX6_makesFinal_23 rfl ?_
      refine gx_get dX6_makesFinal_24 gf_X6_50 (gs_g6 R hm) (v := .ref (A 35 0 0)) (rfl) ?_
      refine gx_iload_n dX6_makesFinal_27 rfl ?_
      refine gx_iload_n dX6_makesFinal_28 rfl ?_
      refine gx_invS dX6_makesFinal_29 wm_X6_105 gt_X6_at ws_X6_at (As := [.int (nI g), .int (nI o)]) (rest := [.ref (A 35 0 0)]) rfl rfl (Nat.le_of_ble_eq_true rfl) (by decide) (cc_X6_atE (g := g) (o := o) (rfl) (rfl)) (fun r1 h q1 => ?_)
      obtain ⟨rfl, rfl⟩ := q1
      show gx_Ev _ _ _ _ _ [.int (nI (40 * g + o)), .ref (A 35 0 0)] _ _
      refine gq_35 dX6_makesFinal_32 R hm (q := 40 * g + o) (rfl) (by omega) (v := σ.2.1 115 (40 * g + o) 0) (rfl) ?_
      refine gx_if_ne dX6_makesFinal_33 (tgt := 157) (by decide) (fun hc2 => ?_) (fun hc2 => ?_)
      · refine gx_iinc dX6_makesFinal_157 rfl (v := nI (o + 1)) (nI_1 _) (by decide) rfl (L' := [some (.ref (A 6 0 0)), some (.int (nI g)), some (.int (nI (o + 1))), w3, w4, w5, w6]) rfl ?_
        refine gx_goto dX6_makesFinal_160 (tgt := 2) (by decide) ?_
        have e9 : sm_mf σ g (m + 1) o = sm_mf σ g m (o + 1) := by rw [sm_mf, if_neg (fun z => hc2 z.2.1)]
        rw [e9]
        exact ih (o + 1) (w3) (w4) (w5) (w6) (by omega) g3 g4 g5
      · refine gx_iconst dX6_makesFinal_36 (v := 0) (by decide) ?_
        refine gx_istore_n dX6_makesFinal_37 (by decide) rfl (L' := [some (.ref (A 6 0 0)), some (.int (nI g)), some (.int (nI o)), some (.int 0), w4, w5, w6]) rfl ?_
        refine gx_iconst dX6_makesFinal_38 (v := 1) (by decide) ?_
        refine gx_istore dX6_makesFinal_39 (by decide) rfl (L' := [some (.ref (A 6 0 0)), some (.int (nI g)), some (.int (nI o)), some (.int 0), some (.int 1), w5, w6]) rfl ?_
        refine gx_iconst dX6_makesFinal_41 (v := 0) (by decide) ?_
        refine gx_istore dX6_makesFinal_42 (by decide) rfl (L' := [some (.ref (A 6 0 0)), some (.int (nI g)), some (.int (nI o)), some (.int 0), some (.int 1), some (.int 0), w6]) rfl ?_
        refine cl_mf_in R hm V hg4 ho (fun w7 => ?_) _ 0 _ (Nat.zero_add _)
        refine gx_iload dX6_makesFinal_113 rfl ?_
        refine gx_if_eq dX6_makesFinal_115 (tgt := 157) (by decide) (fun hc3 => ?_) (fun hc3 => ?_)
        · refine gx_iinc dX6_makesFinal_157 rfl (v := nI (o + 1)) (nI_1 _) (by decide) rfl (L' := [some (.ref (A 6 0 0)), some (.int (nI g)), some (.int (nI (o + 1))), some (.int ((sm_ga σ g o (σ.1 100 0 0)).1)), some (.int ((sm_ga σ g o (σ.1 100 0 0)).2)), some (.int (nI (σ.1 100 0 0))), w7]) rfl ?_
          refine gx_goto dX6_makesFinal_160 (tgt := 2) (by decide) ?_
          have e9 : sm_mf σ g (m + 1) o = sm_mf σ g m (o + 1) := by rw [sm_mf, if_neg (fun z => z.2.2 hc3)]
          rw [e9]
          exact ih (o + 1) (some (.int ((sm_ga σ g o (σ.1 100 0 0)).1))) (some (.int ((sm_ga σ g o (σ.1 100 0 0)).2))) (some (.int (nI (σ.1 100 0 0)))) (w7) (by omega) rfl rfl rfl
        · refine gx_aload_n dX6_makesFinal_118 rfl ?_
          refine gx_get dX6_makesFinal_119 gf_X6_50 (gs_g6 R hm) (v := .ref (A 35 0 0)) (rfl) ?_
          refine gx_iload_n dX6_makesFinal_122 rfl ?_
          refine gx_iload_n dX6_makesFinal_123 rfl ?_
          refine gx_invS dX6_makesFinal_124 wm_X6_105 gt_X6_at ws_X6_at (As := [.int (nI g), .int (nI o)]) (rest := [.ref (A 35 0 0)]) rfl rfl (Nat.le_of_ble_eq_true rfl) (by decide) (cc_X6_atE (g := g) (o := o) (rfl) (rfl)) (fun r1 h q1 => ?_)
          obtain ⟨rfl, rfl⟩ := q1
          show gx_Ev _ _ _ _ _ [.int (nI (40 * g + o)), .ref (A 35 0 0)] _ _
          refine gx_iload_n dX6_makesFinal_127 rfl ?_
          refine ga_I115 (σ := σ) hm dX6_makesFinal_128 R (q := 40 * g + o) (v := (sm_ga σ g o (σ.1 100 0 0)).1) (rfl) (by omega) (fun h R hs0 => ?_)
          refine gx_aload_n dX6_makesFinal_129 rfl ?_
          refine gx_get dX6_makesFinal_130 gf_X6_7 (gs_g6 R hm) (v := .ref (A 21 0 0)) (rfl) ?_
          refine gx_iload_n dX6_makesFinal_133 rfl ?_
          refine gx_aload_n dX6_makesFinal_134 rfl ?_
          refine gx_get dX6_makesFinal_135 gf_X6_7 (gs_g6 R hm) (v := .ref (A 21 0 0)) (rfl) ?_
          refine gx_iload_n dX6_makesFinal_138 rfl ?_
          refine gq_21 dX6_makesFinal_139 R hm (q := g) (rfl) (by omega) (v := σ.2.1 101 g 0) (rfl) ?_
          refine gx_iload_n dX6_makesFinal_140 rfl ?_
          refine gx_icmp_ge dX6_makesFinal_141 (tgt := 148) (by decide) (fun hc4 => ?_) (fun hc4 => ?_)
          · refine gx_aload_n dX6_makesFinal_148 rfl ?_
            refine gx_get dX6_makesFinal_149 gf_X6_7 (gs_g6 R hm) (v := .ref (A 21 0 0)) (rfl) ?_
            refine gx_iload_n dX6_makesFinal_152 rfl ?_
            refine gq_21 dX6_makesFinal_153 R hm (q := g) (rfl) (by omega) (v := σ.2.1 101 g 0) (rfl) ?_
            refine ga_I101 (σ := (gs_i σ 115 (40 * g + o) 0 ((sm_ga σ g o (σ.1 100 0 0)).1))) hm dX6_makesFinal_154 R (q := g) (v := σ.2.1 101 g 0) (rfl) (by omega) (fun h R hs1 => ?_)
            refine gx_iconst dX6_makesFinal_155 (v := 1) (by decide) ?_
            refine gx_ireturn dX6_makesFinal_156 ?_
            have e9 : sm_mf σ g (m + 1) o = some o := by rw [sm_mf, if_pos ⟨hc1, hc2, hc3⟩]
            rw [e9]
            have e8 : gs_mg (σ.2.1 101 g 0) (sm_ga σ g o (σ.1 100 0 0)).1 = σ.2.1 101 g 0 := by simp [gs_mg, hc4]
            exact ⟨⟨_, rfl, rfl⟩, by show gs_R _ (sm_mf1 σ g o) A; rw [sm_mf1, e8]; exact R, ((gs_sm.rfl.trans hs0).trans hs1), rfl⟩
          · refine gx_iload_n dX6_makesFinal_144 rfl ?_
            refine gx_goto dX6_makesFinal_145 (tgt := 154) (by decide) ?_
            refine ga_I101 (σ := (gs_i σ 115 (40 * g + o) 0 ((sm_ga σ g o (σ.1 100 0 0)).1))) hm dX6_makesFinal_154 R (q := g) (v := (sm_ga σ g o (σ.1 100 0 0)).1) (rfl) (by omega) (fun h R hs1 => ?_)
            refine gx_iconst dX6_makesFinal_155 (v := 1) (by decide) ?_
            refine gx_ireturn dX6_makesFinal_156 ?_
            have e9 : sm_mf σ g (m + 1) o = some o := by rw [sm_mf, if_pos ⟨hc1, hc2, hc3⟩]
            rw [e9]
            have e8 : gs_mg (σ.2.1 101 g 0) (sm_ga σ g o (σ.1 100 0 0)).1 = (sm_ga σ g o (σ.1 100 0 0)).1 := by simp [gs_mg, hc4]
            exact ⟨⟨_, rfl, rfl⟩, by show gs_R _ (sm_mf1 σ g o) A; rw [sm_mf1, e8]; exact R, ((gs_sm.rfl.trans hs0).trans hs1), rfl⟩
set_option maxHeartbeats 4000000 in
theorem cc_X6_makesFinal {S : gx_S} {h : gx_H} {σ : gs_T} {A : gs_A} (R : gs_R h σ A) (hm : σ.1 31 0 0 = 1) (V : gv_V σ) {g : Nat} (hg4 : g < 4) : gx_Cn S gm_X6_makesFinal 3 [.ref (A 6 0 0), .int (nI g)] h (fun r h' => gs_R h' (sm_mfs σ g (sm_mf σ g (σ.1 104 0 0) 0)) A ∧ gs_sm h h' ∧ r = some (.int (sm_mfr (sm_mf σ g (σ.1 104 0 0) 0)))) := by
  refine gx_Cn.of gt_X6_makesFinal (by simp [Value.category]) (Nat.le_of_ble_eq_true rfl) ?_
  show gx_Ev S gm_X6_makesFinal 3 0 [some (.ref (A 6 0 0)), some (.int (nI g)), none, none, none, none, none] [] h _
  refine gx_iconst dX6_makesFinal_0 (v := 0) (by decide) ?_
  refine gx_istore_n dX6_makesFinal_1 (by decide) rfl (L' := [some (.ref (A 6 0 0)), some (.int (nI g)), some (.int 0), none, none, none, none]) rfl ?_
  exact cl_mf R hm V hg4 _ 0 none none none none (Nat.zero_add _) rfl rfl rfl
