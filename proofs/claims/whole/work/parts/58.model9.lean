/-! the reference: comes, bring, twice -/
def sm_st (σ : gs_T) (g : Nat) : gs_T := match sm_mf σ g (σ.1 104 0 0) 0 with
  | some o => sm_mf1 σ g o
  | none => if sm_tc σ g then sm_tks σ g else sm_ws σ g
def sm_sb (σ : gs_T) (g : Nat) : Bool := match sm_mf σ g (σ.1 104 0 0) 0 with
  | some _ => true
  | none => if sm_tc σ g then true else if sm_wr σ g = 0 then false else true
def sm_lp (g n : Nat) (σ : gs_T) : gs_T := match n with
  | 0 => σ
  | n + 1 => if sm_sb σ g = true then sm_lp g n (sm_st σ g) else sm_st σ g
def sm_ok (g n : Nat) (σ : gs_T) : Prop := match n with
  | 0 => False
  | n + 1 => (gv_V σ ∧ σ.1 31 0 0 = 1 ∧ g < σ.1 100 0 0 ∧ σ.1 125 0 0 + 4 ≤ 400 ∧ (sm_tc σ g → σ.1 123 g 0 < 40)) ∧ (sm_sb σ g = true → sm_ok g n (sm_st σ g))
set_option maxHeartbeats 4000000 in
theorem cl_cm {S : gx_S} {h0 : gx_H} {A : gs_A} {g : Nat} (hg4 : g < 4) (w1 w3 : Option Value) (g3 : gx_ok [none, none, none, w3] 4 = true) : ∀ (n : Nat) (σ : gs_T) (h : gx_H), gs_R h σ A → gs_sm h0 h → sm_ok g n σ → gx_Ev S gm_X6_comes 5 160 [some (.ref (A 6 0 0)), w1, some (.int (nI g)), w3, some (.int 1)] [] h (fun r h' => gx_rt none r ∧ gs_R h' (sm_lp g n σ) A ∧ gs_sm h0 h' ∧ r = none) := by
  intro n
  induction n with
  | zero => intro σ h R hs0 hok; exact hok.elim
  | succ n ih =>
    intro σ h R hs hok
    obtain ⟨⟨V, hm, hg, hF, hT⟩, hnext⟩ := hok
    rcases hmf : sm_mf σ g (σ.1 104 0 0) 0 with _ | o1
    · by_cases htk : sm_tc σ g
      · refine gx_iload dX6_comes_160 rfl ?_
        refine gx_if_eq dX6_comes_162 (tgt := 199) (by decide) (fun hc1 => absurd hc1 (by decide)) (fun hc1 => ?_)
        refine gx_aload_n dX6_comes_165 rfl ?_
        refine gx_iload_n dX6_comes_166 rfl ?_
        refine gx_invV dX6_comes_167 wm_X6_142 gt_X6_makesFinal wy_X6_makesFinal wl_X6_makesFinal (ci := 6) rfl rfl (gs_g6 R hm) (As := [.int (nI g)]) (rest := []) rfl rfl (Nat.le_of_ble_eq_true rfl) (by decide) (cc_X6_makesFinal R hm V (g := g) hg4) (fun r1 h q1 => ?_)
        rw [hmf] at q1
        obtain ⟨R, hs0, rfl⟩ := q1
        have R : gs_R _ σ A := R
        show gx_Ev _ _ _ _ _ [.int 0] _ _
        refine gx_if_ne dX6_comes_170 (tgt := 189) (by decide) (fun hc2 => absurd hc2 (by decide)) (fun hc2 => ?_)
        refine gx_aload_n dX6_comes_173 rfl ?_
        refine gx_iload_n dX6_comes_174 rfl ?_
        refine gx_invV dX6_comes_175 wm_X6_146 gt_X6_takes wy_X6_takes wl_X6_takes (ci := 6) rfl rfl (gs_g6 R hm) (As := [.int (nI g)]) (rest := []) rfl rfl (Nat.le_of_ble_eq_true rfl) (by decide) (cc_X6_takes R hm V (g := g) hg4 hT) (fun r1 h q1 => ?_)
        rw [← gs_bt htk] at q1
        obtain ⟨R, hs1, rfl⟩ := q1
        have R : gs_R _ (sm_tks σ g) A := R
        show gx_Ev _ _ _ _ _ [.int 1] _ _
        refine gx_if_ne dX6_comes_178 (tgt := 189) (by decide) (fun hc3 => ?_) (fun hc3 => absurd hc3 (by decide))
        refine gx_iconst dX6_comes_189 (v := 1) (by decide) ?_
        refine gx_goto dX6_comes_190 (tgt := 194) (by decide) ?_
        refine gx_istore dX6_comes_194 (by decide) g3 (L' := [some (.ref (A 6 0 0)), w1, some (.int (nI g)), w3, some (.int 1)]) rfl ?_
        refine gx_goto dX6_comes_196 (tgt := 160) (by decide) ?_
        have eb : sm_sb σ g = true := by rw [sm_sb, hmf]; simp [htk]
        have es : sm_st σ g = sm_tks σ g := by rw [sm_st, hmf]; simp [htk]
        rw [sm_lp, if_pos eb, es]
        exact ih _ _ R ((hs.trans hs0).trans hs1) (es ▸ hnext eb)
      · by_cases hwr : sm_wr σ g = 0
        · refine gx_iload dX6_comes_160 rfl ?_
          refine gx_if_eq dX6_comes_162 (tgt := 199) (by decide) (fun hc1 => absurd hc1 (by decide)) (fun hc1 => ?_)
          refine gx_aload_n dX6_comes_165 rfl ?_
          refine gx_iload_n dX6_comes_166 rfl ?_
          refine gx_invV dX6_comes_167 wm_X6_142 gt_X6_makesFinal wy_X6_makesFinal wl_X6_makesFinal (ci := 6) rfl rfl (gs_g6 R hm) (As := [.int (nI g)]) (rest := []) rfl rfl (Nat.le_of_ble_eq_true rfl) (by decide) (cc_X6_makesFinal R hm V (g := g) hg4) (fun r1 h q1 => ?_)
          rw [hmf] at q1
          obtain ⟨R, hs0, rfl⟩ := q1
          have R : gs_R _ σ A := R
          show gx_Ev _ _ _ _ _ [.int 0] _ _
          refine gx_if_ne dX6_comes_170 (tgt := 189) (by decide) (fun hc2 => absurd hc2 (by decide)) (fun hc2 => ?_)
          refine gx_aload_n dX6_comes_173 rfl ?_
          refine gx_iload_n dX6_comes_174 rfl ?_
          refine gx_invV dX6_comes_175 wm_X6_146 gt_X6_takes wy_X6_takes wl_X6_takes (ci := 6) rfl rfl (gs_g6 R hm) (As := [.int (nI g)]) (rest := []) rfl rfl (Nat.le_of_ble_eq_true rfl) (by decide) (cc_X6_takes R hm V (g := g) hg4 hT) (fun r1 h q1 => ?_)
          rw [← gs_bf htk, sm_tks, if_neg htk] at q1
          obtain ⟨R, hs1, rfl⟩ := q1
          have R : gs_R _ σ A := R
          show gx_Ev _ _ _ _ _ [.int 0] _ _
          refine gx_if_ne dX6_comes_178 (tgt := 189) (by decide) (fun hc3 => absurd hc3 (by decide)) (fun hc3 => ?_)
          refine gx_aload_n dX6_comes_181 rfl ?_
          refine gx_iload_n dX6_comes_182 rfl ?_
          refine gx_invV dX6_comes_183 wm_X6_149 gt_X6_works wy_X6_works wl_X6_works (ci := 6) rfl rfl (gs_g6 R hm) (As := [.int (nI g)]) (rest := []) rfl rfl (Nat.le_of_ble_eq_true rfl) (by decide) (cc_X6_works R hm V (g := g) hg4 hg hF) (fun r1 h q1 => ?_)
          obtain ⟨R, hs2, rfl⟩ := q1
          have R : gs_R _ (sm_ws σ g) A := R
          show gx_Ev _ _ _ _ _ [.int (sm_wr σ g)] _ _
          refine gx_if_eq dX6_comes_186 (tgt := 193) (by decide) (fun hc4 => ?_) (fun hc4 => absurd hc4 (fun z => z hwr))
          refine gx_iconst dX6_comes_193 (v := 0) (by decide) ?_
          refine gx_istore dX6_comes_194 (by decide) g3 (L' := [some (.ref (A 6 0 0)), w1, some (.int (nI g)), w3, some (.int 0)]) rfl ?_
          refine gx_goto dX6_comes_196 (tgt := 160) (by decide) ?_
          refine gx_iload dX6_comes_160 rfl ?_
          refine gx_if_eq dX6_comes_162 (tgt := 199) (by decide) (fun hc1 => ?_) (fun hc1 => absurd hc1 (by decide))
          refine gx_return dX6_comes_199 ?_
          have eb : ¬ sm_sb σ g = true := by rw [sm_sb, hmf]; simp [htk, hwr]
          have es : sm_st σ g = sm_ws σ g := by rw [sm_st, hmf]; simp [htk]
          exact ⟨rfl, by rw [sm_lp, if_neg eb, es]; exact R, (((hs.trans hs0).trans hs1).trans hs2), rfl⟩
        · refine gx_iload dX6_comes_160 rfl ?_
          refine gx_if_eq dX6_comes_162 (tgt := 199) (by decide) (fun hc1 => absurd hc1 (by decide)) (fun hc1 => ?_)
          refine gx_aload_n dX6_comes_165 rfl ?_
          refine gx_iload_n dX6_comes_166 rfl ?_
          refine gx_invV dX6_comes_167 wm_X6_142 gt_X6_makesFinal wy_X6_makesFinal wl_X6_makesFinal (ci := 6) rfl rfl (gs_g6 R hm) (As := [.int (nI g)]) (rest := []) rfl rfl (Nat.le_of_ble_eq_true rfl) (by decide) (cc_X6_makesFinal R hm V (g := g) hg4) (fun r1 h q1 => ?_)
          rw [hmf] at q1
          obtain ⟨R, hs0, rfl⟩ := q1
          have R : gs_R _ σ A := R
          show gx_Ev _ _ _ _ _ [.int 0] _ _
          refine gx_if_ne dX6_comes_170 (tgt := 189) (by decide) (fun hc2 => absurd hc2 (by decide)) (fun hc2 => ?_)
          refine gx_aload_n dX6_comes_173 rfl ?_
          refine gx_iload_n dX6_comes_174 rfl ?_
          refine gx_invV dX6_comes_175 wm_X6_146 gt_X6_takes wy_X6_takes wl_X6_takes (ci := 6) rfl rfl (gs_g6 R hm) (As := [.int (nI g)]) (rest := []) rfl rfl (Nat.le_of_ble_eq_true rfl) (by decide) (cc_X6_takes R hm V (g := g) hg4 hT) (fun r1 h q1 => ?_)
          rw [← gs_bf htk, sm_tks, if_neg htk] at q1
          obtain ⟨R, hs1, rfl⟩ := q1
          have R : gs_R _ σ A := R
          show gx_Ev _ _ _ _ _ [.int 0] _ _
          refine gx_if_ne dX6_comes_178 (tgt := 189) (by decide) (fun hc3 => absurd hc3 (by decide)) (fun hc3 => ?_)
          refine gx_aload_n dX6_comes_181 rfl ?_
          refine gx_iload_n dX6_comes_182 rfl ?_
          refine gx_invV dX6_comes_183 wm_X6_149 gt_X6_works wy_X6_works wl_X6_works (ci := 6) rfl rfl (gs_g6 R hm) (As := [.int (nI g)]) (rest := []) rfl rfl (Nat.le_of_ble_eq_true rfl) (by decide) (cc_X6_works R hm V (g := g) hg4 hg hF) (fun r1 h q1 => ?_)
          obtain ⟨R, hs2, rfl⟩ := q1
          have R : gs_R _ (sm_ws σ g) A := R
          show gx_Ev _ _ _ _ _ [.int (sm_wr σ g)] _ _
          refine gx_if_eq dX6_comes_186 (tgt := 193) (by decide) (fun hc4 => absurd hc4 (hwr)) (fun hc4 => ?_)
          refine gx_iconst dX6_comes_189 (v := 1) (by decide) ?_
          refine gx_goto dX6_comes_190 (tgt := 194) (by decide) ?_
          refine gx_istore dX6_comes_194 (by decide) g3 (L' := [some (.ref (A 6 0 0)), w1, some (.int (nI g)), w3, some (.int 1)]) rfl ?_
          refine gx_goto dX6_comes_196 (tgt := 160) (by decide) ?_
          have eb : sm_sb σ g = true := by rw [sm_sb, hmf]; simp [htk, hwr]
          have es : sm_st σ g = sm_ws σ g := by rw [sm_st, hmf]; simp [htk]
          rw [sm_lp, if_pos eb, es]
          exact ih _ _ R (((hs.trans hs0).trans hs1).trans hs2) (es ▸ hnext eb)
    · refine gx_iload dX6_comes_160 rfl ?_
      refine gx_if_eq dX6_comes_162 (tgt := 199) (by decide) (fun hc1 => absurd hc1 (by decide)) (fun hc1 => ?_)
      refine gx_aload_n dX6_comes_165 rfl ?_
      refine gx_iload_n dX6_comes_166 rfl ?_
      refine gx_invV dX6_comes_167 wm_X6_142 gt_X6_makesFinal wy_X6_makesFinal wl_X6_makesFinal (ci := 6) rfl rfl (gs_g6 R hm) (As := [.int (nI g)]) (rest := []) rfl rfl (Nat.le_of_ble_eq_true rfl) (by decide) (cc_X6_makesFinal R hm V (g := g) hg4) (fun r1 h q1 => ?_)
      rw [hmf] at q1
      obtain ⟨R, hs0, rfl⟩ := q1
      have R : gs_R _ (sm_mf1 σ g o1) A := R
      show gx_Ev _ _ _ _ _ [.int 1] _ _
      refine gx_if_ne dX6_comes_170 (tgt := 189) (by decide) (fun hc2 => ?_) (fun hc2 => absurd hc2 (by decide))
      refine gx_iconst dX6_comes_189 (v := 1) (by decide) ?_
      refine gx_goto dX6_comes_190 (tgt := 194) (by decide) ?_
      refine gx_istore dX6_comes_194 (by decide) g3 (L' := [some (.ref (A 6 0 0)), w1, some (.int (nI g)), w3, some (.int 1)]) rfl ?_
      refine gx_goto dX6_comes_196 (tgt := 160) (by decide) ?_
      have eb : sm_sb σ g = true := by rw [sm_sb, hmf]
      have es : sm_st σ g = sm_mf1 σ g o1 := by rw [sm_st, hmf]
      rw [sm_lp, if_pos eb, es]
      exact ih _ _ R (hs.trans hs0) (es ▸ hnext eb)
def sm_rc (σ : gs_T) (i q : Nat) : gs_T := if σ.2.1 126 i 0 = 0 then sm_cs σ (σ.1 129 i 0) (σ.1 127 i 0) else if σ.2.1 126 i 0 = 1 then gs_i σ 119 (4 * (40 * σ.1 129 i 0 + σ.1 127 i 0) + q) 0 (σ.2.1 130 i 0) else if σ.2.1 120 (4 * (40 * σ.1 129 i 0 + σ.1 127 i 0) + q) 0 = 0 then gs_i (gs_i (gs_i σ 120 (4 * (40 * σ.1 129 i 0 + σ.1 127 i 0) + q) 0 1) 121 (4 * (40 * σ.1 129 i 0 + σ.1 127 i 0) + q) 0 (σ.2.1 131 i 0)) 122 (4 * (40 * σ.1 129 i 0 + σ.1 127 i 0) + q) 0 (σ.2.1 132 i 0) else σ
def sm_rb (σ : gs_T) (i q : Nat) : gs_T := gs_i (sm_rc σ i q) 133 0 0 ((sm_rc σ i q).2.1 133 0 0 + 1)
set_option maxHeartbeats 4000000 in
theorem cc_X6_comes {S : gx_S} {h : gx_H} {σ : gs_T} {A : gs_A} (R : gs_R h σ A) (hm : σ.1 31 0 0 = 1) (V : gv_V σ) {i q n : Nat} (hi : i < 400) (hq : q < 4) (hfr : ¬ σ.2.1 126 i 0 = 0 → σ.1 128 i 0 = q + 1) (hF : σ.1 125 0 0 + 4 ≤ 400) (hmr : (sm_rc σ i q).1 31 0 0 = 1) (hok : sm_ok (σ.1 129 i 0) n (sm_rb σ i q)) : gx_Cn S gm_X6_comes 5 [.ref (A 6 0 0), .int (nI i)] h (fun r h' => gs_R h' (sm_lp (σ.1 129 i 0) n (sm_rb σ i q)) A ∧ gs_sm h h' ∧ r = none) := by
  refine gx_Cn.of gt_X6_comes (by simp [Value.category]) (Nat.le_of_ble_eq_true rfl) ?_
  show gx_Ev S gm_X6_comes 5 0 [some (.ref (A 6 0 0)), some (.int (nI i)), none, none, none] [] h _
  have hto : σ.1 129 i 0 < 4 := Nat.lt_of_lt_of_le (gv_to V i) (gv_n4 V)
  have ho := gv_oo V i
  refine gx_aload_n dX6_comes_0 rfl ?_
  refine gx_get dX6_comes_1 gf_X6_89 (gs_g6 R hm) (v := .ref (A 49 0 0)) (rfl) ?_
  refine gx_iload_n dX6_comes_4 rfl ?_
  refine gq_49 dX6_comes_5 R hm (q := i) (rfl) (by omega) (v := nI (σ.1 129 i 0)) (rfl) ?_
  refine gx_istore_n dX6_comes_6 (by decide) rfl (L' := [some (.ref (A 6 0 0)), some (.int (nI i)), some (.int (nI (σ.1 129 i 0))), none, none]) rfl ?_
  refine gx_aload_n dX6_comes_7 rfl ?_
  refine gx_get dX6_comes_8 gf_X6_83 (gs_g6 R hm) (v := .ref (A 47 0 0)) (rfl) ?_
  refine gx_iload_n dX6_comes_11 rfl ?_
  refine gq_47 dX6_comes_12 R hm (q := i) (rfl) (by omega) (v := nI (σ.1 127 i 0)) (rfl) ?_
  refine gx_istore_n dX6_comes_13 (by decide) rfl (L' := [some (.ref (A 6 0 0)), some (.int (nI i)), some (.int (nI (σ.1 129 i 0))), some (.int (nI (σ.1 127 i 0))), none]) rfl ?_
  refine gx_aload_n dX6_comes_14 rfl ?_
  refine gx_get dX6_comes_15 gf_X6_80 (gs_g6 R hm) (v := .ref (A 46 0 0)) (rfl) ?_
  refine gx_iload_n dX6_comes_18 rfl ?_
  refine gq_46 dX6_comes_19 R hm (q := i) (rfl) (by omega) (v := σ.2.1 126 i 0) (rfl) ?_
  refine gx_if_ne dX6_comes_20 (tgt := 32) (by decide) (fun k0 => ?_) (fun k0 => ?_)
  · refine gx_aload_n dX6_comes_32 rfl ?_
    refine gx_get dX6_comes_33 gf_X6_80 (gs_g6 R hm) (v := .ref (A 46 0 0)) (rfl) ?_
    refine gx_iload_n dX6_comes_36 rfl ?_
    refine gq_46 dX6_comes_37 R hm (q := i) (rfl) (by omega) (v := σ.2.1 126 i 0) (rfl) ?_
    refine gx_iconst dX6_comes_38 (v := 1) (by decide) ?_
    refine gx_icmp_ne dX6_comes_39 (tgt := 67) (by decide) (fun k1 => ?_) (fun k1 => ?_)
    · refine gx_aload_n dX6_comes_67 rfl ?_
      refine gx_get dX6_comes_68 gf_X6_65 (gs_g6 R hm) (v := .ref (A 40 0 0)) (rfl) ?_
      refine gx_iload_n dX6_comes_71 rfl ?_
      refine gx_iload_n dX6_comes_72 rfl ?_
      refine gx_aload_n dX6_comes_73 rfl ?_
      refine gx_get dX6_comes_74 gf_X6_86 (gs_g6 R hm) (v := .ref (A 48 0 0)) (rfl) ?_
      refine gx_iload_n dX6_comes_77 rfl ?_
      refine gq_48 dX6_comes_78 R hm (q := i) (rfl) (by omega) (v := gs_sf (σ.1 128 i 0)) (rfl) ?_
      refine gx_invS dX6_comes_79 wm_X6_131 gt_X6_of ws_X6_of (As := [.int (nI (σ.1 129 i 0)), .int (nI (σ.1 127 i 0)), .int (gs_sf (σ.1 128 i 0))]) (rest := [.ref (A 40 0 0)]) rfl rfl (Nat.le_of_ble_eq_true rfl) (by decide) (cc_X6_ofE (g := σ.1 129 i 0) (o := σ.1 127 i 0) (q := q) (rfl) (rfl) (by rw [hfr k0]; rfl)) (fun r1 h q1 => ?_)
      obtain ⟨rfl, rfl⟩ := q1
      show gx_Ev _ _ _ _ _ [.int (nI (4 * (40 * (σ.1 129 i 0) + (σ.1 127 i 0)) + q)), .ref (A 40 0 0)] _ _
      refine gq_40 dX6_comes_82 R hm (q := 4 * (40 * (σ.1 129 i 0) + (σ.1 127 i 0)) + q) (rfl) (by omega) (v := σ.2.1 120 (4 * (40 * (σ.1 129 i 0) + (σ.1 127 i 0)) + q) 0) (rfl) ?_
      refine gx_if_ne dX6_comes_83 (tgt := 147) (by decide) (fun k2 => ?_) (fun k2 => ?_)
      · have hτ : sm_rc σ i q = σ := by rw [sm_rc, if_neg k0, if_neg k1, if_neg k2]
        skip
        rw [← hτ] at R
        have hmτ : (sm_rc σ i q).1 31 0 0 = 1 := hmr
        generalize hτ2 : sm_rc σ i q = τ at R hmτ
        have hok : sm_ok (σ.1 129 i 0) n (gs_i τ 133 0 0 (τ.2.1 133 0 0 + 1)) := by rw [← hτ2]; exact hok
        have hm := hmτ
        rw [sm_rb, hτ2]
        refine gx_aload_n dX6_comes_147 rfl ?_
        refine gx_dup dX6_comes_148 rfl ?_
        refine gx_get dX6_comes_149 gf_X6_139 (gs_g6 R hm) (v := .int (τ.2.1 133 0 0)) (rfl) ?_
        refine gx_iconst dX6_comes_152 (v := 1) (by decide) ?_
        refine gx_iadd dX6_comes_153 ?_
        refine gp_I133 (σ := τ) hm dX6_comes_154 gf_X6_139 R (v := (τ.2.1 133 0 0) + 1) (fun h R hs0 => ?_)
        refine gx_iconst dX6_comes_157 (v := 1) (by decide) ?_
        refine gx_istore dX6_comes_158 (by decide) rfl (L' := [some (.ref (A 6 0 0)), some (.int (nI i)), some (.int (nI (σ.1 129 i 0))), some (.int (nI (σ.1 127 i 0))), some (.int 1)]) rfl ?_
        exact cl_cm hto _ _ rfl n _ _ R hs0 hok
      · refine gx_aload_n dX6_comes_86 rfl ?_
        refine gx_get dX6_comes_87 gf_X6_65 (gs_g6 R hm) (v := .ref (A 40 0 0)) (rfl) ?_
        refine gx_iload_n dX6_comes_90 rfl ?_
        refine gx_iload_n dX6_comes_91 rfl ?_
        refine gx_aload_n dX6_comes_92 rfl ?_
        refine gx_get dX6_comes_93 gf_X6_86 (gs_g6 R hm) (v := .ref (A 48 0 0)) (rfl) ?_
        refine gx_iload_n dX6_comes_96 rfl ?_
        refine gq_48 dX6_comes_97 R hm (q := i) (rfl) (by omega) (v := gs_sf (σ.1 128 i 0)) (rfl) ?_
        refine gx_invS dX6_comes_98 wm_X6_131 gt_X6_of ws_X6_of (As := [.int (nI (σ.1 129 i 0)), .int (nI (σ.1 127 i 0)), .int (gs_sf (σ.1 128 i 0))]) (rest := [.ref (A 40 0 0)]) rfl rfl (Nat.le_of_ble_eq_true rfl) (by decide) (cc_X6_ofE (g := σ.1 129 i 0) (o := σ.1 127 i 0) (q := q) (rfl) (rfl) (by rw [hfr k0]; rfl)) (fun r1 h q1 => ?_)
        obtain ⟨rfl, rfl⟩ := q1
        show gx_Ev _ _ _ _ _ [.int (nI (4 * (40 * (σ.1 129 i 0) + (σ.1 127 i 0)) + q)), .ref (A 40 0 0)] _ _
        refine gx_iconst dX6_comes_101 (v := 1) (by decide) ?_
        refine ga_I120 (σ := σ) hm dX6_comes_102 R (by first | exact Or.inl rfl | exact Or.inr rfl) (q := 4 * (40 * (σ.1 129 i 0) + (σ.1 127 i 0)) + q) (v := 1) (rfl) (by omega) (fun h R hs0 => ?_)
        refine gx_aload_n dX6_comes_103 rfl ?_
        refine gx_get dX6_comes_104 gf_X6_68 (gs_g6 R hm) (v := .ref (A 41 0 0)) (rfl) ?_
        refine gx_iload_n dX6_comes_107 rfl ?_
        refine gx_iload_n dX6_comes_108 rfl ?_
        refine gx_aload_n dX6_comes_109 rfl ?_
        refine gx_get dX6_comes_110 gf_X6_86 (gs_g6 R hm) (v := .ref (A 48 0 0)) (rfl) ?_
        refine gx_iload_n dX6_comes_113 rfl ?_
        refine gq_48 dX6_comes_114 R hm (q := i) (rfl) (by omega) (v := gs_sf (σ.1 128 i 0)) (rfl) ?_
        refine gx_invS dX6_comes_115 wm_X6_131 gt_X6_of ws_X6_of (As := [.int (nI (σ.1 129 i 0)), .int (nI (σ.1 127 i 0)), .int (gs_sf (σ.1 128 i 0))]) (rest := [.ref (A 41 0 0)]) rfl rfl (Nat.le_of_ble_eq_true rfl) (by decide) (cc_X6_ofE (g := σ.1 129 i 0) (o := σ.1 127 i 0) (q := q) (rfl) (rfl) (by rw [hfr k0]; rfl)) (fun r1 h q1 => ?_)
        obtain ⟨rfl, rfl⟩ := q1
        show gx_Ev _ _ _ _ _ [.int (nI (4 * (40 * (σ.1 129 i 0) + (σ.1 127 i 0)) + q)), .ref (A 41 0 0)] _ _
        refine gx_aload_n dX6_comes_118 rfl ?_
        refine gx_get dX6_comes_119 gf_X6_95 (gs_g6 R hm) (v := .ref (A 51 0 0)) (rfl) ?_
        refine gx_iload_n dX6_comes_122 rfl ?_
        refine gq_51 dX6_comes_123 R hm (q := i) (rfl) (by omega) (v := σ.2.1 131 i 0) (rfl) ?_
        refine ga_I121 (σ := (gs_i σ 120 (4 * (40 * (σ.1 129 i 0) + (σ.1 127 i 0)) + q) 0 1)) hm dX6_comes_124 R (q := 4 * (40 * (σ.1 129 i 0) + (σ.1 127 i 0)) + q) (v := σ.2.1 131 i 0) (rfl) (by omega) (fun h R hs1 => ?_)
        refine gx_aload_n dX6_comes_125 rfl ?_
        refine gx_get dX6_comes_126 gf_X6_71 (gs_g6 R hm) (v := .ref (A 42 0 0)) (rfl) ?_
        refine gx_iload_n dX6_comes_129 rfl ?_
        refine gx_iload_n dX6_comes_130 rfl ?_
        refine gx_aload_n dX6_comes_131 rfl ?_
        refine gx_get dX6_comes_132 gf_X6_86 (gs_g6 R hm) (v := .ref (A 48 0 0)) (rfl) ?_
        refine gx_iload_n dX6_comes_135 rfl ?_
        refine gq_48 dX6_comes_136 R hm (q := i) (rfl) (by omega) (v := gs_sf (σ.1 128 i 0)) (rfl) ?_
        refine gx_invS dX6_comes_137 wm_X6_131 gt_X6_of ws_X6_of (As := [.int (nI (σ.1 129 i 0)), .int (nI (σ.1 127 i 0)), .int (gs_sf (σ.1 128 i 0))]) (rest := [.ref (A 42 0 0)]) rfl rfl (Nat.le_of_ble_eq_true rfl) (by decide) (cc_X6_ofE (g := σ.1 129 i 0) (o := σ.1 127 i 0) (q := q) (rfl) (rfl) (by rw [hfr k0]; rfl)) (fun r1 h q1 => ?_)
        obtain ⟨rfl, rfl⟩ := q1
        show gx_Ev _ _ _ _ _ [.int (nI (4 * (40 * (σ.1 129 i 0) + (σ.1 127 i 0)) + q)), .ref (A 42 0 0)] _ _
        refine gx_aload_n dX6_comes_140 rfl ?_
        refine gx_get dX6_comes_141 gf_X6_98 (gs_g6 R hm) (v := .ref (A 52 0 0)) (rfl) ?_
        refine gx_iload_n dX6_comes_144 rfl ?_
        refine gq_52 dX6_comes_145 R hm (q := i) (rfl) (by omega) (v := σ.2.1 132 i 0) (rfl) ?_
        refine ga_I122 (σ := (gs_i (gs_i σ 120 (4 * (40 * (σ.1 129 i 0) + (σ.1 127 i 0)) + q) 0 1) 121 (4 * (40 * (σ.1 129 i 0) + (σ.1 127 i 0)) + q) 0 (σ.2.1 131 i 0))) hm dX6_comes_146 R (q := 4 * (40 * (σ.1 129 i 0) + (σ.1 127 i 0)) + q) (v := σ.2.1 132 i 0) (rfl) (by omega) (fun h R hs2 => ?_)
        have hτ : sm_rc σ i q = (gs_i (gs_i (gs_i σ 120 (4 * (40 * (σ.1 129 i 0) + (σ.1 127 i 0)) + q) 0 1) 121 (4 * (40 * (σ.1 129 i 0) + (σ.1 127 i 0)) + q) 0 (σ.2.1 131 i 0)) 122 (4 * (40 * (σ.1 129 i 0) + (σ.1 127 i 0)) + q) 0 (σ.2.1 132 i 0)) := by rw [sm_rc, if_neg k0, if_neg k1, if_pos k2]
        have hs9 := (((gs_sm.rfl.trans hs0).trans hs1).trans hs2)
        rw [← hτ] at R
        have hmτ : (sm_rc σ i q).1 31 0 0 = 1 := hmr
        generalize hτ2 : sm_rc σ i q = τ at R hmτ
        have hok : sm_ok (σ.1 129 i 0) n (gs_i τ 133 0 0 (τ.2.1 133 0 0 + 1)) := by rw [← hτ2]; exact hok
        have hm := hmτ
        rw [sm_rb, hτ2]
        refine gx_aload_n dX6_comes_147 rfl ?_
        refine gx_dup dX6_comes_148 rfl ?_
        refine gx_get dX6_comes_149 gf_X6_139 (gs_g6 R hm) (v := .int (τ.2.1 133 0 0)) (rfl) ?_
        refine gx_iconst dX6_comes_152 (v := 1) (by decide) ?_
        refine gx_iadd dX6_comes_153 ?_
        refine gp_I133 (σ := τ) hm dX6_comes_154 gf_X6_139 R (v := (τ.2.1 133 0 0) + 1) (fun h R hs0 => ?_)
        refine gx_iconst dX6_comes_157 (v := 1) (by decide) ?_
        refine gx_istore dX6_comes_158 (by decide) rfl (L' := [some (.ref (A 6 0 0)), some (.int (nI i)), some (.int (nI (σ.1 129 i 0))), some (.int (nI (σ.1 127 i 0))), some (.int 1)]) rfl ?_
        exact cl_cm hto _ _ rfl n _ _ R (hs9.trans hs0) hok
    · refine gx_aload_n dX6_comes_42 rfl ?_
      refine gx_get dX6_comes_43 gf_X6_62 (gs_g6 R hm) (v := .ref (A 39 0 0)) (rfl) ?_
      refine gx_iload_n dX6_comes_46 rfl ?_
      refine gx_iload_n dX6_comes_47 rfl ?_
      refine gx_aload_n dX6_comes_48 rfl ?_
      refine gx_get dX6_comes_49 gf_X6_86 (gs_g6 R hm) (v := .ref (A 48 0 0)) (rfl) ?_
      refine gx_iload_n dX6_comes_52 rfl ?_
      refine gq_48 dX6_comes_53 R hm (q := i) (rfl) (by omega) (v := gs_sf (σ.1 128 i 0)) (rfl) ?_
      refine gx_invS dX6_comes_54 wm_X6_131 gt_X6_of ws_X6_of (As := [.int (nI (σ.1 129 i 0)), .int (nI (σ.1 127 i 0)), .int (gs_sf (σ.1 128 i 0))]) (rest := [.ref (A 39 0 0)]) rfl rfl (Nat.le_of_ble_eq_true rfl) (by decide) (cc_X6_ofE (g := σ.1 129 i 0) (o := σ.1 127 i 0) (q := q) (rfl) (rfl) (by rw [hfr k0]; rfl)) (fun r1 h q1 => ?_)
      obtain ⟨rfl, rfl⟩ := q1
      show gx_Ev _ _ _ _ _ [.int (nI (4 * (40 * (σ.1 129 i 0) + (σ.1 127 i 0)) + q)), .ref (A 39 0 0)] _ _
      refine gx_aload_n dX6_comes_57 rfl ?_
      refine gx_get dX6_comes_58 gf_X6_92 (gs_g6 R hm) (v := .ref (A 50 0 0)) (rfl) ?_
      refine gx_iload_n dX6_comes_61 rfl ?_
      refine gq_50 dX6_comes_62 R hm (q := i) (rfl) (by omega) (v := σ.2.1 130 i 0) (rfl) ?_
      refine ga_I119 (σ := σ) hm dX6_comes_63 R (q := 4 * (40 * (σ.1 129 i 0) + (σ.1 127 i 0)) + q) (v := σ.2.1 130 i 0) (rfl) (by omega) (fun h R hs0 => ?_)
      refine gx_goto dX6_comes_64 (tgt := 147) (by decide) ?_
      have hτ : sm_rc σ i q = (gs_i σ 119 (4 * (40 * (σ.1 129 i 0) + (σ.1 127 i 0)) + q) 0 (σ.2.1 130 i 0)) := by rw [sm_rc, if_neg k0, if_pos k1]
      have hs9 := (gs_sm.rfl.trans hs0)
      rw [← hτ] at R
      have hmτ : (sm_rc σ i q).1 31 0 0 = 1 := hmr
      generalize hτ2 : sm_rc σ i q = τ at R hmτ
      have hok : sm_ok (σ.1 129 i 0) n (gs_i τ 133 0 0 (τ.2.1 133 0 0 + 1)) := by rw [← hτ2]; exact hok
      have hm := hmτ
      rw [sm_rb, hτ2]
      refine gx_aload_n dX6_comes_147 rfl ?_
      refine gx_dup dX6_comes_148 rfl ?_
      refine gx_get dX6_comes_149 gf_X6_139 (gs_g6 R hm) (v := .int (τ.2.1 133 0 0)) (rfl) ?_
      refine gx_iconst dX6_comes_152 (v := 1) (by decide) ?_
      refine gx_iadd dX6_comes_153 ?_
      refine gp_I133 (σ := τ) hm dX6_comes_154 gf_X6_139 R (v := (τ.2.1 133 0 0) + 1) (fun h R hs0 => ?_)
      refine gx_iconst dX6_comes_157 (v := 1) (by decide) ?_
      refine gx_istore dX6_comes_158 (by decide) rfl (L' := [some (.ref (A 6 0 0)), some (.int (nI i)), some (.int (nI (σ.1 129 i 0))), some (.int (nI (σ.1 127 i 0))), some (.int 1)]) rfl ?_
      exact cl_cm hto _ _ rfl n _ _ R (hs9.trans hs0) hok
  · refine gx_aload_n dX6_comes_23 rfl ?_
    refine gx_iload_n dX6_comes_24 rfl ?_
    refine gx_iload_n dX6_comes_25 rfl ?_
    refine gx_invV dX6_comes_26 wm_X6_135 gt_X6_comesStart wy_X6_comesStart wl_X6_comesStart (ci := 6) rfl rfl (gs_g6 R hm) (As := [.int (nI (σ.1 129 i 0)), .int (nI (σ.1 127 i 0))]) (rest := []) rfl rfl (Nat.le_of_ble_eq_true rfl) (by decide) (cc_X6_comesStart R hm V (g := σ.1 129 i 0) (o := σ.1 127 i 0) (gv_to V i) hto ho hF) (fun r1 h q1 => ?_)
    obtain ⟨R, hs0, rfl⟩ := q1
    show gx_Ev _ _ _ _ _ [] _ _
    refine gx_goto dX6_comes_29 (tgt := 147) (by decide) ?_
    have hτ : sm_rc σ i q = (sm_cs σ (σ.1 129 i 0) (σ.1 127 i 0)) := by rw [sm_rc, if_pos k0]
    have hs9 := (gs_sm.rfl.trans hs0)
    rw [← hτ] at R
    have hmτ : (sm_rc σ i q).1 31 0 0 = 1 := hmr
    generalize hτ2 : sm_rc σ i q = τ at R hmτ
    have hok : sm_ok (σ.1 129 i 0) n (gs_i τ 133 0 0 (τ.2.1 133 0 0 + 1)) := by rw [← hτ2]; exact hok
    have hm := hmτ
    rw [sm_rb, hτ2]
    refine gx_aload_n dX6_comes_147 rfl ?_
    refine gx_dup dX6_comes_148 rfl ?_
    refine gx_get dX6_comes_149 gf_X6_139 (gs_g6 R hm) (v := .int (τ.2.1 133 0 0)) (rfl) ?_
    refine gx_iconst dX6_comes_152 (v := 1) (by decide) ?_
    refine gx_iadd dX6_comes_153 ?_
    refine gp_I133 (σ := τ) hm dX6_comes_154 gf_X6_139 R (v := (τ.2.1 133 0 0) + 1) (fun h R hs0 => ?_)
    refine gx_iconst dX6_comes_157 (v := 1) (by decide) ?_
    refine gx_istore dX6_comes_158 (by decide) rfl (L' := [some (.ref (A 6 0 0)), some (.int (nI i)), some (.int (nI (σ.1 129 i 0))), some (.int (nI (σ.1 127 i 0))), some (.int 1)]) rfl ?_
    exact cl_cm hto _ _ rfl n _ _ R (hs9.trans hs0) hok
