/-! the reference: takes -/
abbrev sm_tt (σ : gs_T) (g o : Nat) : Int32 := if σ.2.1 115 (40 * g + o) 0 ≤ 0 then σ.2.1 119 (4 * (40 * g + o) + g) 0 else σ.2.1 115 (40 * g + o) 0
def sm_tb (σ : gs_T) (g o : Nat) : Nat × Int32 := match o with
  | 0 => (0, 0)
  | o + 1 => if ¬ σ.2.1 114 (40 * g + o) 0 = 0 ∧ σ.2.1 116 (40 * g + o) 0 = 0 then (if (sm_tb σ g o).1 = 0 ∨ sm_tt σ g o < (sm_tb σ g o).2 then (o + 1, sm_tt σ g o) else sm_tb σ g o) else sm_tb σ g o
theorem sm_tb_le (σ : gs_T) (g o : Nat) : (sm_tb σ g o).1 ≤ o := by
  induction o with
  | zero => exact Nat.le_refl _
  | succ o ih =>
    rw [sm_tb]
    split
    · split
      · exact Nat.le_refl _
      · omega
    · omega
theorem gs_sf_m1 {x : Nat} (hx : x ≤ 2 ^ 31) : gs_sf x = -1 ↔ x = 0 := by
  cases x with
  | zero => exact ⟨fun _ => rfl, fun _ => rfl⟩
  | succ x =>
    refine ⟨fun h => ?_, fun h => by omega⟩
    have h2 : nI x = -1 := h
    have h3 := nI_pos (n := x) (by omega)
    rw [h2] at h3
    exact absurd (by decide) h3
abbrev sm_tc (σ : gs_T) (g : Nat) : Prop := ¬ (sm_tb σ g (σ.1 104 0 0)).1 = 0 ∧ ¬ σ.2.1 115 (40 * g + ((sm_tb σ g (σ.1 104 0 0)).1 - 1)) 0 = 0
def sm_tk1 (σ : gs_T) (g b : Nat) : gs_T := gs_n (gs_n (gs_i σ 116 (40 * g + b) 0 1) 124 (40 * g + σ.1 123 g 0) 0 b) 123 g 0 (σ.1 123 g 0 + 1)
def sm_tks (σ : gs_T) (g : Nat) : gs_T := if sm_tc σ g then sm_tk1 σ g ((sm_tb σ g (σ.1 104 0 0)).1 - 1) else σ
set_option maxHeartbeats 4000000 in
theorem cl_tk {S : gx_S} {h : gx_H} {σ : gs_T} {A : gs_A} (R : gs_R h σ A) (hm : σ.1 31 0 0 = 1) (V : gv_V σ) {g : Nat} (hg4 : g < 4) {Q : Option Value → gx_H → Prop} (K : ∀ w, gx_Ev S gm_X6_takes 3 109 [some (.ref (A 6 0 0)), some (.int (nI g)), some (.int (gs_sf (sm_tb σ g (σ.1 104 0 0)).1)), some (.int ((sm_tb σ g (σ.1 104 0 0)).2)), some (.int (nI (σ.1 104 0 0))), w] [] h Q) : ∀ (m q : Nat) (w5 : Option Value), q + m = σ.1 104 0 0 → gx_Ev S gm_X6_takes 3 7 [some (.ref (A 6 0 0)), some (.int (nI g)), some (.int (gs_sf (sm_tb σ g q).1)), some (.int ((sm_tb σ g q).2)), some (.int (nI q)), w5] [] h Q := by
  intro m
  induction m with
  | zero =>
    intro q w5 hq
    have hqn : q = σ.1 104 0 0 := by omega
    have hc40 := gv_cnt V
    refine gx_iload dX6_takes_7 rfl ?_
    refine gx_aload_n dX6_takes_9 rfl ?_
    refine gx_get dX6_takes_10 gf_X6_124 (gs_g6 R hm) (v := .int (nI (σ.1 104 0 0))) (rfl) ?_
    refine gx_icmp_ge dX6_takes_13 (tgt := 109) (by decide) (fun hc1 => ?_) (fun hc1 => absurd hc1 (fun z => z (by rw [hqn]; exact nI_le (Nat.le_refl _) (by omega))))
    have k := K w5
    rw [← hqn] at k
    exact k
  | succ m ih =>
    intro q w5 hq
    have hc40 := gv_cnt V
    have hqn : q < σ.1 104 0 0 := by omega
    have hle := sm_tb_le σ g q
    refine gx_iload dX6_takes_7 rfl ?_
    refine gx_aload_n dX6_takes_9 rfl ?_
    refine gx_get dX6_takes_10 gf_X6_124 (gs_g6 R hm) (v := .int (nI (σ.1 104 0 0))) (rfl) ?_
    refine gx_icmp_ge dX6_takes_13 (tgt := 109) (by decide) (fun hc0 => absurd hc0 (nI_ge (by omega) (by omega))) (fun hc0 => ?_)
    refine gx_aload_n dX6_takes_16 rfl ?_
    refine gx_get dX6_takes_17 gf_X6_47 (gs_g6 R hm) (v := .ref (A 34 0 0)) (rfl) ?_
    refine gx_iload_n dX6_takes_20 rfl ?_
    refine gx_iload dX6_takes_21 rfl ?_
    refine gx_invS dX6_takes_23 wm_X6_105 gt_X6_at ws_X6_at (As := [.int (nI g), .int (nI q)]) (rest := [.ref (A 34 0 0)]) rfl rfl (Nat.le_of_ble_eq_true rfl) (by decide) (cc_X6_atE (g := g) (o := q) (rfl) (rfl)) (fun r1 h q1 => ?_)
    obtain ⟨rfl, rfl⟩ := q1
    show gx_Ev _ _ _ _ _ [.int (nI (40 * g + q)), .ref (A 34 0 0)] _ _
    refine gq_34 dX6_takes_26 R hm (q := 40 * g + q) (rfl) (by omega) (v := σ.2.1 114 (40 * g + q) 0) (rfl) ?_
    refine gx_if_eq dX6_takes_27 (tgt := 103) (by decide) (fun hc1 => ?_) (fun hc1 => ?_)
    · refine gx_iinc dX6_takes_103 rfl (v := nI (q + 1)) (nI_1 _) (by decide) rfl (L' := [some (.ref (A 6 0 0)), some (.int (nI g)), some (.int (gs_sf (sm_tb σ g q).1)), some (.int ((sm_tb σ g q).2)), some (.int (nI (q + 1))), w5]) rfl ?_
      refine gx_goto dX6_takes_106 (tgt := 7) (by decide) ?_
      have e9 : sm_tb σ g (q + 1) = sm_tb σ g q := by rw [sm_tb, if_neg (fun z => z.1 hc1)]
      have k := ih (q + 1) (w5) (by omega)
      rw [e9] at k
      exact k
    · refine gx_aload_n dX6_takes_30 rfl ?_
      refine gx_get dX6_takes_31 gf_X6_53 (gs_g6 R hm) (v := .ref (A 36 0 0)) (rfl) ?_
      refine gx_iload_n dX6_takes_34 rfl ?_
      refine gx_iload dX6_takes_35 rfl ?_
      refine gx_invS dX6_takes_37 wm_X6_105 gt_X6_at ws_X6_at (As := [.int (nI g), .int (nI q)]) (rest := [.ref (A 36 0 0)]) rfl rfl (Nat.le_of_ble_eq_true rfl) (by decide) (cc_X6_atE (g := g) (o := q) (rfl) (rfl)) (fun r1 h q1 => ?_)
      obtain ⟨rfl, rfl⟩ := q1
      show gx_Ev _ _ _ _ _ [.int (nI (40 * g + q)), .ref (A 36 0 0)] _ _
      refine gq_36 dX6_takes_40 R hm (q := 40 * g + q) (rfl) (by omega) (v := σ.2.1 116 (40 * g + q) 0) (rfl) ?_
      refine gx_if_ne dX6_takes_41 (tgt := 103) (by decide) (fun hc2 => ?_) (fun hc2 => ?_)
      · refine gx_iinc dX6_takes_103 rfl (v := nI (q + 1)) (nI_1 _) (by decide) rfl (L' := [some (.ref (A 6 0 0)), some (.int (nI g)), some (.int (gs_sf (sm_tb σ g q).1)), some (.int ((sm_tb σ g q).2)), some (.int (nI (q + 1))), w5]) rfl ?_
        refine gx_goto dX6_takes_106 (tgt := 7) (by decide) ?_
        have e9 : sm_tb σ g (q + 1) = sm_tb σ g q := by rw [sm_tb, if_neg (fun z => hc2 z.2)]
        have k := ih (q + 1) (w5) (by omega)
        rw [e9] at k
        exact k
      · refine gx_aload_n dX6_takes_44 rfl ?_
        refine gx_get dX6_takes_45 gf_X6_50 (gs_g6 R hm) (v := .ref (A 35 0 0)) (rfl) ?_
        refine gx_iload_n dX6_takes_48 rfl ?_
        refine gx_iload dX6_takes_49 rfl ?_
        refine gx_invS dX6_takes_51 wm_X6_105 gt_X6_at ws_X6_at (As := [.int (nI g), .int (nI q)]) (rest := [.ref (A 35 0 0)]) rfl rfl (Nat.le_of_ble_eq_true rfl) (by decide) (cc_X6_atE (g := g) (o := q) (rfl) (rfl)) (fun r1 h q1 => ?_)
        obtain ⟨rfl, rfl⟩ := q1
        show gx_Ev _ _ _ _ _ [.int (nI (40 * g + q)), .ref (A 35 0 0)] _ _
        refine gq_35 dX6_takes_54 R hm (q := 40 * g + q) (rfl) (by omega) (v := σ.2.1 115 (40 * g + q) 0) (rfl) ?_
        refine gx_if_le dX6_takes_55 (tgt := 72) (by decide) (fun hc3 => ?_) (fun hc3 => ?_)
        · refine gx_aload_n dX6_takes_72 rfl ?_
          refine gx_get dX6_takes_73 gf_X6_62 (gs_g6 R hm) (v := .ref (A 39 0 0)) (rfl) ?_
          refine gx_iload_n dX6_takes_76 rfl ?_
          refine gx_iload dX6_takes_77 rfl ?_
          refine gx_iload_n dX6_takes_79 rfl ?_
          refine gx_invS dX6_takes_80 wm_X6_131 gt_X6_of ws_X6_of (As := [.int (nI g), .int (nI q), .int (nI g)]) (rest := [.ref (A 39 0 0)]) rfl rfl (Nat.le_of_ble_eq_true rfl) (by decide) (cc_X6_ofE (g := g) (o := q) (q := g) (rfl) (rfl) (rfl)) (fun r1 h q1 => ?_)
          obtain ⟨rfl, rfl⟩ := q1
          show gx_Ev _ _ _ _ _ [.int (nI (4 * (40 * g + q) + g)), .ref (A 39 0 0)] _ _
          refine gq_39 dX6_takes_83 R hm (q := 4 * (40 * g + q) + g) (rfl) (by omega) (v := σ.2.1 119 (4 * (40 * g + q) + g) 0) (rfl) ?_
          refine gx_istore dX6_takes_84 (by decide) rfl (L' := [some (.ref (A 6 0 0)), some (.int (nI g)), some (.int (gs_sf (sm_tb σ g q).1)), some (.int ((sm_tb σ g q).2)), some (.int (nI q)), some (.int (σ.2.1 119 (4 * (40 * g + q) + g) 0))]) rfl ?_
          refine gx_iload_n dX6_takes_86 rfl ?_
          refine gx_iconst dX6_takes_87 (v := (-1)) (by decide) ?_
          refine gx_icmp_eq dX6_takes_88 (tgt := 97) (by decide) (fun hc4 => ?_) (fun hc4 => ?_)
          · have hc4 := (gs_sf_m1 (by omega)).mp hc4
            refine gx_iload dX6_takes_97 rfl ?_
            refine gx_istore_n dX6_takes_99 (by decide) rfl (L' := [some (.ref (A 6 0 0)), some (.int (nI g)), some (.int (nI q)), some (.int ((sm_tb σ g q).2)), some (.int (nI q)), some (.int (σ.2.1 119 (4 * (40 * g + q) + g) 0))]) rfl ?_
            refine gx_iload dX6_takes_100 rfl ?_
            refine gx_istore_n dX6_takes_102 (by decide) rfl (L' := [some (.ref (A 6 0 0)), some (.int (nI g)), some (.int (nI q)), some (.int (σ.2.1 119 (4 * (40 * g + q) + g) 0)), some (.int (nI q)), some (.int (σ.2.1 119 (4 * (40 * g + q) + g) 0))]) rfl ?_
            refine gx_iinc dX6_takes_103 rfl (v := nI (q + 1)) (nI_1 _) (by decide) rfl (L' := [some (.ref (A 6 0 0)), some (.int (nI g)), some (.int (nI q)), some (.int (σ.2.1 119 (4 * (40 * g + q) + g) 0)), some (.int (nI (q + 1))), some (.int (σ.2.1 119 (4 * (40 * g + q) + g) 0))]) rfl ?_
            refine gx_goto dX6_takes_106 (tgt := 7) (by decide) ?_
            have e8 : sm_tt σ g q = σ.2.1 119 (4 * (40 * g + q) + g) 0 := by simp [hc3]
            have e9 : sm_tb σ g (q + 1) = (q + 1, σ.2.1 119 (4 * (40 * g + q) + g) 0) := by rw [sm_tb, if_pos ⟨hc1, hc2⟩, if_pos (Or.inl hc4), e8]
            have k := ih (q + 1) (some (.int (σ.2.1 119 (4 * (40 * g + q) + g) 0))) (by omega)
            rw [e9] at k
            exact k
          · have hc4 := fun z => hc4 ((gs_sf_m1 (by omega)).mpr z)
            refine gx_iload dX6_takes_91 rfl ?_
            refine gx_iload_n dX6_takes_93 rfl ?_
            refine gx_icmp_ge dX6_takes_94 (tgt := 103) (by decide) (fun hc5 => ?_) (fun hc5 => ?_)
            · refine gx_iinc dX6_takes_103 rfl (v := nI (q + 1)) (nI_1 _) (by decide) rfl (L' := [some (.ref (A 6 0 0)), some (.int (nI g)), some (.int (gs_sf (sm_tb σ g q).1)), some (.int ((sm_tb σ g q).2)), some (.int (nI (q + 1))), some (.int (σ.2.1 119 (4 * (40 * g + q) + g) 0))]) rfl ?_
              refine gx_goto dX6_takes_106 (tgt := 7) (by decide) ?_
              have e8 : sm_tt σ g q = σ.2.1 119 (4 * (40 * g + q) + g) 0 := by simp [hc3]
              have e9 : sm_tb σ g (q + 1) = sm_tb σ g q := by rw [sm_tb, if_pos ⟨hc1, hc2⟩, if_neg (fun z => z.elim hc4 (fun z => Int32.not_lt.mpr hc5 (e8 ▸ z)))]
              have k := ih (q + 1) (some (.int (σ.2.1 119 (4 * (40 * g + q) + g) 0))) (by omega)
              rw [e9] at k
              exact k
            · refine gx_iload dX6_takes_97 rfl ?_
              refine gx_istore_n dX6_takes_99 (by decide) rfl (L' := [some (.ref (A 6 0 0)), some (.int (nI g)), some (.int (nI q)), some (.int ((sm_tb σ g q).2)), some (.int (nI q)), some (.int (σ.2.1 119 (4 * (40 * g + q) + g) 0))]) rfl ?_
              refine gx_iload dX6_takes_100 rfl ?_
              refine gx_istore_n dX6_takes_102 (by decide) rfl (L' := [some (.ref (A 6 0 0)), some (.int (nI g)), some (.int (nI q)), some (.int (σ.2.1 119 (4 * (40 * g + q) + g) 0)), some (.int (nI q)), some (.int (σ.2.1 119 (4 * (40 * g + q) + g) 0))]) rfl ?_
              refine gx_iinc dX6_takes_103 rfl (v := nI (q + 1)) (nI_1 _) (by decide) rfl (L' := [some (.ref (A 6 0 0)), some (.int (nI g)), some (.int (nI q)), some (.int (σ.2.1 119 (4 * (40 * g + q) + g) 0)), some (.int (nI (q + 1))), some (.int (σ.2.1 119 (4 * (40 * g + q) + g) 0))]) rfl ?_
              refine gx_goto dX6_takes_106 (tgt := 7) (by decide) ?_
              have e8 : sm_tt σ g q = σ.2.1 119 (4 * (40 * g + q) + g) 0 := by simp [hc3]
              have e9 : sm_tb σ g (q + 1) = (q + 1, σ.2.1 119 (4 * (40 * g + q) + g) 0) := by rw [sm_tb, if_pos ⟨hc1, hc2⟩, if_pos (Or.inr (e8 ▸ Int32.not_le.mp hc5)), e8]
              have k := ih (q + 1) (some (.int (σ.2.1 119 (4 * (40 * g + q) + g) 0))) (by omega)
              rw [e9] at k
              exact k
        · refine gx_aload_n dX6_takes_58 rfl ?_
          refine gx_get dX6_takes_59 gf_X6_50 (gs_g6 R hm) (v := .ref (A 35 0 0)) (rfl) ?_
          refine gx_iload_n dX6_takes_62 rfl ?_
          refine gx_iload dX6_takes_63 rfl ?_
          refine gx_invS dX6_takes_65 wm_X6_105 gt_X6_at ws_X6_at (As := [.int (nI g), .int (nI q)]) (rest := [.ref (A 35 0 0)]) rfl rfl (Nat.le_of_ble_eq_true rfl) (by decide) (cc_X6_atE (g := g) (o := q) (rfl) (rfl)) (fun r1 h q1 => ?_)
          obtain ⟨rfl, rfl⟩ := q1
          show gx_Ev _ _ _ _ _ [.int (nI (40 * g + q)), .ref (A 35 0 0)] _ _
          refine gq_35 dX6_takes_68 R hm (q := 40 * g + q) (rfl) (by omega) (v := σ.2.1 115 (40 * g + q) 0) (rfl) ?_
          refine gx_goto dX6_takes_69 (tgt := 84) (by decide) ?_
          refine gx_istore dX6_takes_84 (by decide) rfl (L' := [some (.ref (A 6 0 0)), some (.int (nI g)), some (.int (gs_sf (sm_tb σ g q).1)), some (.int ((sm_tb σ g q).2)), some (.int (nI q)), some (.int (σ.2.1 115 (40 * g + q) 0))]) rfl ?_
          refine gx_iload_n dX6_takes_86 rfl ?_
          refine gx_iconst dX6_takes_87 (v := (-1)) (by decide) ?_
          refine gx_icmp_eq dX6_takes_88 (tgt := 97) (by decide) (fun hc4 => ?_) (fun hc4 => ?_)
          · have hc4 := (gs_sf_m1 (by omega)).mp hc4
            refine gx_iload dX6_takes_97 rfl ?_
            refine gx_istore_n dX6_takes_99 (by decide) rfl (L' := [some (.ref (A 6 0 0)), some (.int (nI g)), some (.int (nI q)), some (.int ((sm_tb σ g q).2)), some (.int (nI q)), some (.int (σ.2.1 115 (40 * g + q) 0))]) rfl ?_
            refine gx_iload dX6_takes_100 rfl ?_
            refine gx_istore_n dX6_takes_102 (by decide) rfl (L' := [some (.ref (A 6 0 0)), some (.int (nI g)), some (.int (nI q)), some (.int (σ.2.1 115 (40 * g + q) 0)), some (.int (nI q)), some (.int (σ.2.1 115 (40 * g + q) 0))]) rfl ?_
            refine gx_iinc dX6_takes_103 rfl (v := nI (q + 1)) (nI_1 _) (by decide) rfl (L' := [some (.ref (A 6 0 0)), some (.int (nI g)), some (.int (nI q)), some (.int (σ.2.1 115 (40 * g + q) 0)), some (.int (nI (q + 1))), some (.int (σ.2.1 115 (40 * g + q) 0))]) rfl ?_
            refine gx_goto dX6_takes_106 (tgt := 7) (by decide) ?_
            have e8 : sm_tt σ g q = σ.2.1 115 (40 * g + q) 0 := by simp [hc3]
            have e9 : sm_tb σ g (q + 1) = (q + 1, σ.2.1 115 (40 * g + q) 0) := by rw [sm_tb, if_pos ⟨hc1, hc2⟩, if_pos (Or.inl hc4), e8]
            have k := ih (q + 1) (some (.int (σ.2.1 115 (40 * g + q) 0))) (by omega)
            rw [e9] at k
            exact k
          · have hc4 := fun z => hc4 ((gs_sf_m1 (by omega)).mpr z)
            refine gx_iload dX6_takes_91 rfl ?_
            refine gx_iload_n dX6_takes_93 rfl ?_
            refine gx_icmp_ge dX6_takes_94 (tgt := 103) (by decide) (fun hc5 => ?_) (fun hc5 => ?_)
            · refine gx_iinc dX6_takes_103 rfl (v := nI (q + 1)) (nI_1 _) (by decide) rfl (L' := [some (.ref (A 6 0 0)), some (.int (nI g)), some (.int (gs_sf (sm_tb σ g q).1)), some (.int ((sm_tb σ g q).2)), some (.int (nI (q + 1))), some (.int (σ.2.1 115 (40 * g + q) 0))]) rfl ?_
              refine gx_goto dX6_takes_106 (tgt := 7) (by decide) ?_
              have e8 : sm_tt σ g q = σ.2.1 115 (40 * g + q) 0 := by simp [hc3]
              have e9 : sm_tb σ g (q + 1) = sm_tb σ g q := by rw [sm_tb, if_pos ⟨hc1, hc2⟩, if_neg (fun z => z.elim hc4 (fun z => Int32.not_lt.mpr hc5 (e8 ▸ z)))]
              have k := ih (q + 1) (some (.int (σ.2.1 115 (40 * g + q) 0))) (by omega)
              rw [e9] at k
              exact k
            · refine gx_iload dX6_takes_97 rfl ?_
              refine gx_istore_n dX6_takes_99 (by decide) rfl (L' := [some (.ref (A 6 0 0)), some (.int (nI g)), some (.int (nI q)), some (.int ((sm_tb σ g q).2)), some (.int (nI q)), some (.int (σ.2.1 115 (40 * g + q) 0))]) rfl ?_
              refine gx_iload dX6_takes_100 rfl ?_
              refine gx_istore_n dX6_takes_102 (by decide) rfl (L' := [some (.ref (A 6 0 0)), some (.int (nI g)), some (.int (nI q)), some (.int (σ.2.1 115 (40 * g + q) 0)), some (.int (nI q)), some (.int (σ.2.1 115 (40 * g + q) 0))]) rfl ?_
              refine gx_iinc dX6_takes_103 rfl (v := nI (q + 1)) (nI_1 _) (by decide) rfl (L' := [some (.ref (A 6 0 0)), some (.int (nI g)), some (.int (nI q)), some (.int (σ.2.1 115 (40 * g + q) 0)), some (.int (nI (q + 1))), some (.int (σ.2.1 115 (40 * g + q) 0))]) rfl ?_
              refine gx_goto dX6_takes_106 (tgt := 7) (by decide) ?_
              have e8 : sm_tt σ g q = σ.2.1 115 (40 * g + q) 0 := by simp [hc3]
              have e9 : sm_tb σ g (q + 1) = (q + 1, σ.2.1 115 (40 * g + q) 0) := by rw [sm_tb, if_pos ⟨hc1, hc2⟩, if_pos (Or.inr (e8 ▸ Int32.not_le.mp hc5)), e8]
              have k := ih (q + 1) (some (.int (σ.2.1 115 (40 * g + q) 0))) (by omega)
              rw [e9] at k
              exact k
set_option maxHeartbeats 4000000 in
theorem cc_X6_takes {S : gx_S} {h : gx_H} {σ : gs_T} {A : gs_A} (R : gs_R h σ A) (hm : σ.1 31 0 0 = 1) (V : gv_V σ) {g : Nat} (hg4 : g < 4) (hT : sm_tc σ g → σ.1 123 g 0 < 40) : gx_Cn S gm_X6_takes 3 [.ref (A 6 0 0), .int (nI g)] h (fun r h' => gs_R h' (sm_tks σ g) A ∧ gs_sm h h' ∧ r = some (.int (gs_bi (sm_tc σ g)))) := by
  refine gx_Cn.of gt_X6_takes (by simp [Value.category]) (Nat.le_of_ble_eq_true rfl) ?_
  show gx_Ev S gm_X6_takes 3 0 [some (.ref (A 6 0 0)), some (.int (nI g)), none, none, none, none] [] h _
  refine gx_iconst dX6_takes_0 (v := (-1)) (by decide) ?_
  refine gx_istore_n dX6_takes_1 (by decide) rfl (L' := [some (.ref (A 6 0 0)), some (.int (nI g)), some (.int (-1)), none, none, none]) rfl ?_
  refine gx_iconst dX6_takes_2 (v := 0) (by decide) ?_
  refine gx_istore_n dX6_takes_3 (by decide) rfl (L' := [some (.ref (A 6 0 0)), some (.int (nI g)), some (.int (-1)), some (.int 0), none, none]) rfl ?_
  refine gx_iconst dX6_takes_4 (v := 0) (by decide) ?_
  refine gx_istore dX6_takes_5 (by decide) rfl (L' := [some (.ref (A 6 0 0)), some (.int (nI g)), some (.int (-1)), some (.int 0), some (.int 0), none]) rfl ?_
  refine cl_tk R hm V hg4 (fun w5 => ?_) _ 0 _ (Nat.zero_add _)
  have hle := sm_tb_le σ g (σ.1 104 0 0)
  have hc40 := gv_cnt V
  generalize hL3 : (sm_tb σ g (σ.1 104 0 0)).2 = l3
  suffices hkk : ∀ x, (sm_tb σ g (σ.1 104 0 0)).1 = x → gx_Ev S gm_X6_takes 3 109 [some (.ref (A 6 0 0)), some (.int (nI g)), some (.int (gs_sf x)), some (.int l3), some (.int (nI (σ.1 104 0 0))), w5] [] h _ from hkk _ rfl
  intro x hX
  rw [hX] at hle
  rcases x with _ | b
  · show gx_Ev S gm_X6_takes 3 109 [some (.ref (A 6 0 0)), some (.int (nI g)), some (.int (-1)), some (.int l3), some (.int (nI (σ.1 104 0 0))), w5] [] _ _
    refine gx_iload_n dX6_takes_109 rfl ?_
    refine gx_iconst dX6_takes_110 (v := (-1)) (by decide) ?_
    refine gx_icmp_eq dX6_takes_111 (tgt := 127) (by decide) (fun hc1 => ?_) (fun hc1 => absurd hc1 (fun z => z rfl))
    refine gx_iconst dX6_takes_127 (v := 0) (by decide) ?_
    refine gx_ireturn dX6_takes_128 ?_
    exact ⟨⟨_, rfl, rfl⟩, by rw [sm_tks, if_neg (fun z => z.1 hX)]; exact R, gs_sm.rfl, congrArg (fun z => some (Value.int z)) (gs_bf (fun z => z.1 hX))⟩
  · show gx_Ev S gm_X6_takes 3 109 [some (.ref (A 6 0 0)), some (.int (nI g)), some (.int (nI b)), some (.int l3), some (.int (nI (σ.1 104 0 0))), w5] [] _ _
    refine gx_iload_n dX6_takes_109 rfl ?_
    refine gx_iconst dX6_takes_110 (v := (-1)) (by decide) ?_
    refine gx_icmp_eq dX6_takes_111 (tgt := 127) (by decide) (fun hc1 => absurd hc1 (fun z => absurd z (fun z => absurd ((gs_sf_m1 (x := b + 1) (by omega)).mp z) (by omega)))) (fun hc1 => ?_)
    refine gx_aload_n dX6_takes_114 rfl ?_
    refine gx_get dX6_takes_115 gf_X6_50 (gs_g6 R hm) (v := .ref (A 35 0 0)) (rfl) ?_
    refine gx_iload_n dX6_takes_118 rfl ?_
    refine gx_iload_n dX6_takes_119 rfl ?_
    refine gx_invS dX6_takes_120 wm_X6_105 gt_X6_at ws_X6_at (As := [.int (nI g), .int (nI b)]) (rest := [.ref (A 35 0 0)]) rfl rfl (Nat.le_of_ble_eq_true rfl) (by decide) (cc_X6_atE (g := g) (o := b) (rfl) (rfl)) (fun r1 h q1 => ?_)
    obtain ⟨rfl, rfl⟩ := q1
    show gx_Ev _ _ _ _ _ [.int (nI (40 * g + b)), .ref (A 35 0 0)] _ _
    refine gq_35 dX6_takes_123 R hm (q := 40 * g + b) (rfl) (by omega) (v := σ.2.1 115 (40 * g + b) 0) (rfl) ?_
    refine gx_if_ne dX6_takes_124 (tgt := 129) (by decide) (fun hc2 => ?_) (fun hc2 => ?_)
    · refine gx_aload_n dX6_takes_129 rfl ?_
      refine gx_get dX6_takes_130 gf_X6_53 (gs_g6 R hm) (v := .ref (A 36 0 0)) (rfl) ?_
      refine gx_iload_n dX6_takes_133 rfl ?_
      refine gx_iload_n dX6_takes_134 rfl ?_
      refine gx_invS dX6_takes_135 wm_X6_105 gt_X6_at ws_X6_at (As := [.int (nI g), .int (nI b)]) (rest := [.ref (A 36 0 0)]) rfl rfl (Nat.le_of_ble_eq_true rfl) (by decide) (cc_X6_atE (g := g) (o := b) (rfl) (rfl)) (fun r1 h q1 => ?_)
      obtain ⟨rfl, rfl⟩ := q1
      show gx_Ev _ _ _ _ _ [.int (nI (40 * g + b)), .ref (A 36 0 0)] _ _
      refine gx_iconst dX6_takes_138 (v := 1) (by decide) ?_
      refine ga_I116 (σ := σ) hm dX6_takes_139 R (by first | exact Or.inl rfl | exact Or.inr rfl) (q := 40 * g + b) (v := 1) (rfl) (by omega) (fun h R hs0 => ?_)
      refine gx_aload_n dX6_takes_140 rfl ?_
      refine gx_get dX6_takes_141 gf_X6_77 (gs_g6 R hm) (v := .ref (A 44 0 0)) (rfl) ?_
      refine gx_iload_n dX6_takes_144 rfl ?_
      refine gx_aload_n dX6_takes_145 rfl ?_
      refine gx_get dX6_takes_146 gf_X6_74 (gs_g6 R hm) (v := .ref (A 43 0 0)) (rfl) ?_
      refine gx_iload_n dX6_takes_149 rfl ?_
      refine gq_43 dX6_takes_150 R hm (q := g) (rfl) (by omega) (v := nI (σ.1 123 g 0)) (rfl) ?_
      refine gx_invS dX6_takes_151 wm_X6_105 gt_X6_at ws_X6_at (As := [.int (nI g), .int (nI (σ.1 123 g 0))]) (rest := [.ref (A 44 0 0)]) rfl rfl (Nat.le_of_ble_eq_true rfl) (by decide) (cc_X6_atE (g := g) (o := σ.1 123 g 0) (rfl) (rfl)) (fun r1 h q1 => ?_)
      obtain ⟨rfl, rfl⟩ := q1
      show gx_Ev _ _ _ _ _ [.int (nI (40 * g + (σ.1 123 g 0))), .ref (A 44 0 0)] _ _
      refine gx_iload_n dX6_takes_154 rfl ?_
      refine ga_N124 (σ := (gs_i σ 116 (40 * g + b) 0 1)) hm dX6_takes_155 R (rfl) (q := 40 * g + (σ.1 123 g 0)) (v := b) (rfl) (by have := hT (show sm_tc σ g from ⟨by rw [hX]; omega, by rw [hX]; exact hc2⟩); omega) (fun h R hs1 => ?_)
      refine gx_aload_n dX6_takes_156 rfl ?_
      refine gx_get dX6_takes_157 gf_X6_74 (gs_g6 R hm) (v := .ref (A 43 0 0)) (rfl) ?_
      refine gx_iload_n dX6_takes_160 rfl ?_
      refine gx_dup2 dX6_takes_161 rfl rfl ?_
      refine gq_43 dX6_takes_162 R hm (q := g) (rfl) (by omega) (v := nI (σ.1 123 g 0)) (rfl) ?_
      refine gx_iconst dX6_takes_163 (v := 1) (by decide) ?_
      refine gx_iadd dX6_takes_164 ?_
      rw [show ((nI (σ.1 123 g 0)) + 1 : Int32) = nI (σ.1 123 g 0 + 1) from nI_1 _]
      refine ga_N123 (σ := (gs_n (gs_i σ 116 (40 * g + b) 0 1) 124 (40 * g + (σ.1 123 g 0)) 0 b)) hm dX6_takes_165 R (rfl) (q := g) (v := σ.1 123 g 0 + 1) (rfl) (by omega) (fun h R hs2 => ?_)
      refine gx_iconst dX6_takes_166 (v := 1) (by decide) ?_
      refine gx_ireturn dX6_takes_167 ?_
      have hyes : sm_tc σ g := ⟨by rw [hX]; omega, by rw [hX]; exact hc2⟩
      exact ⟨⟨_, rfl, rfl⟩, by rw [sm_tks, if_pos hyes, hX]; exact R, (((gs_sm.rfl.trans hs0).trans hs1).trans hs2), congrArg (fun z => some (Value.int z)) (gs_bt hyes)⟩
    · refine gx_iconst dX6_takes_127 (v := 0) (by decide) ?_
      refine gx_ireturn dX6_takes_128 ?_
      exact ⟨⟨_, rfl, rfl⟩, by rw [sm_tks, if_neg (fun z => z.2 (by rw [hX]; exact hc2))]; exact R, gs_sm.rfl, congrArg (fun z => some (Value.int z)) (gs_bf (fun z => z.2 (by rw [hX]; exact hc2)))⟩
