/-! the class: workOut, workOutAll, deliver -/
def sc_ua (σ : gs_T) (g o : Nat) : Int32 := if σ.1 13 o 0 % σ.1 0 0 0 = g then σ.2.1 19 (σ.1 13 o 0) 0 else σ.2.1 14 g o
def sc_ub (σ : gs_T) (g o : Nat) : Int32 := if σ.1 14 o 0 % σ.1 0 0 0 = g then σ.2.1 19 (σ.1 14 o 0) 0 else σ.2.1 14 g o
def sc_wt2 (σ : gs_T) (g o : Nat) (u v : Int32) : gs_T :=
  let s1 := if σ.1 14 o 0 % σ.1 0 0 0 = g then gs_i σ 19 (σ.1 14 o 0) 0 (sc_bB σ o u v) else σ
  let s2 := if σ.1 13 o 0 % σ.1 0 0 0 = g then gs_i s1 19 (σ.1 13 o 0) 0 (sc_bA σ o u v) else s1
  let s3 := gs_i s2 15 g o 1
  if σ.2.1 3 o 0 = 0 then gs_i (gs_i (gs_i s3 3 o 0 1) 4 o 0 (sc_rp σ o u v)) 20 (σ.1 12 o 0) 0 (gs_mx (σ.2.1 20 (σ.1 12 o 0) 0) (σ.2.1 10 g o)) else s3
def sc_wo (σ : gs_T) (g o : Nat) : gs_T := sc_wt2 σ g o (sc_ua σ g o) (sc_ub σ g o)
theorem sc_wo_1 (σ : gs_T) (g o : Nat) : (sc_wo σ g o).1 = σ.1 := by
  unfold sc_wo sc_wt2
  simp only
  split <;> split <;> split <;> rfl
set_option maxHeartbeats 4000000 in
theorem cc_X5_workOut {S : gx_S} {h : gx_H} {σ : gs_T} {A : gs_A} (R : gs_R h σ A) (W : gw_W σ) {g o : Nat} (hp : σ.1 6 g o = 1) : gx_Cn S gm_X5_workOut 4 [.ref (A 5 0 0), .ref (A 4 g o)] h (fun r h' => gs_R h' (sc_wo σ g o) A ∧ r = none) := by
  refine gx_Cn.of gt_X5_workOut (by simp [Value.category]) (Nat.le_of_ble_eq_true rfl) ?_
  show gx_Ev S gm_X5_workOut 4 0 [some (.ref (A 5 0 0)), some (.ref (A 4 g o)), none, none, none, none, none] [] h _
  have hgo := gw_p W hp
  have hg := gw_g W hgo.1
  have ho := gw_o W hgo.2
  have hn4 := gw_n4 W
  have hn2 := gw_n2 W
  have hka := Nat.mod_lt (σ.1 13 o 0) (show 0 < σ.1 0 0 0 by omega)
  have hkb := Nat.mod_lt (σ.1 14 o 0) (show 0 < σ.1 0 0 0 by omega)
  refine gx_aload_n dX5_workOut_0 rfl ?_
  refine gx_get dX5_workOut_1 gf_X5_116 (gs_g4 R hp) (v := .ref (A 3 o 0)) (rfl) ?_
  refine gx_astore_n dX5_workOut_4 (by decide) rfl (L' := [some (.ref (A 5 0 0)), some (.ref (A 4 g o)), some (.ref (A 3 o 0)), none, none, none, none]) rfl ?_
  refine gx_aload_n dX5_workOut_5 rfl ?_
  refine gx_aload_n dX5_workOut_6 rfl ?_
  refine gx_get dX5_workOut_7 gf_X5_198 (gs_g3 R ho) (v := .int (nI (σ.1 13 o 0))) (rfl) ?_
  refine gx_invV dX5_workOut_10 wm_X5_201 gt_X5_keeperOf wy_X5_keeperOf wl_X5_keeperOf (ci := 5) rfl rfl (gs_g5 R ) (As := [.int (nI (σ.1 13 o 0))]) (rest := []) rfl rfl (Nat.le_of_ble_eq_true rfl) (by decide) (cc_X5_keeperOf R W (k := σ.1 13 o 0) (gw_a W o)) (fun r1 h q1 => ?_)
  obtain ⟨rfl, rfl⟩ := q1
  show gx_Ev _ _ _ _ _ [.ref (A 1 (σ.1 13 o 0 % σ.1 0 0 0) 0)] _ _
  refine gx_get dX5_workOut_13 gf_X5_208 (gs_g1 R (gw_g W hka)) (v := .int (nI (σ.1 13 o 0 % σ.1 0 0 0))) (rfl) ?_
  refine gx_aload_n dX5_workOut_16 rfl ?_
  refine gx_get dX5_workOut_17 gf_X5_125 (gs_g4 R hp) (v := .int (nI g)) (rfl) ?_
  refine gx_icmp_ne dX5_workOut_20 (tgt := 27) (by decide) (fun ha => ?_) (fun ha => ?_)
  · have ha : ¬ σ.1 13 o 0 % σ.1 0 0 0 = g := fun z => ha (congrArg nI z)
    refine gx_iconst dX5_workOut_27 (v := 0) (by decide) ?_
    refine gx_istore_n dX5_workOut_28 (by decide) rfl (L' := [some (.ref (A 5 0 0)), some (.ref (A 4 g o)), some (.ref (A 3 o 0)), some (.int 0), none, none, none]) rfl ?_
    refine gx_aload_n dX5_workOut_29 rfl ?_
    refine gx_aload_n dX5_workOut_30 rfl ?_
    refine gx_get dX5_workOut_31 gf_X5_205 (gs_g3 R ho) (v := .int (nI (σ.1 14 o 0))) (rfl) ?_
    refine gx_invV dX5_workOut_34 wm_X5_201 gt_X5_keeperOf wy_X5_keeperOf wl_X5_keeperOf (ci := 5) rfl rfl (gs_g5 R ) (As := [.int (nI (σ.1 14 o 0))]) (rest := []) rfl rfl (Nat.le_of_ble_eq_true rfl) (by decide) (cc_X5_keeperOf R W (k := σ.1 14 o 0) (gw_b W o)) (fun r1 h q1 => ?_)
    obtain ⟨rfl, rfl⟩ := q1
    show gx_Ev _ _ _ _ _ [.ref (A 1 (σ.1 14 o 0 % σ.1 0 0 0) 0)] _ _
    refine gx_get dX5_workOut_37 gf_X5_208 (gs_g1 R (gw_g W hkb)) (v := .int (nI (σ.1 14 o 0 % σ.1 0 0 0))) (rfl) ?_
    refine gx_aload_n dX5_workOut_40 rfl ?_
    refine gx_get dX5_workOut_41 gf_X5_125 (gs_g4 R hp) (v := .int (nI g)) (rfl) ?_
    refine gx_icmp_ne dX5_workOut_44 (tgt := 51) (by decide) (fun hb => ?_) (fun hb => ?_)
    · have hb : ¬ σ.1 14 o 0 % σ.1 0 0 0 = g := fun z => hb (congrArg nI z)
      refine gx_iconst dX5_workOut_51 (v := 0) (by decide) ?_
      refine gx_istore dX5_workOut_52 (by decide) rfl (L' := [some (.ref (A 5 0 0)), some (.ref (A 4 g o)), some (.ref (A 3 o 0)), some (.int 0), some (.int 0), none, none]) rfl ?_
      refine gx_iload_n dX5_workOut_54 rfl ?_
      refine gx_if_eq dX5_workOut_55 (tgt := 70) (by decide) (fun hc3 => ?_) (fun hc3 => absurd hc3 (by decide))
      refine gx_aload_n dX5_workOut_70 rfl ?_
      refine gx_get dX5_workOut_71 gf_X5_243 (gs_g4 R hp) (v := .int (σ.2.1 14 g o)) (rfl) ?_
      refine gx_istore dX5_workOut_74 (by decide) rfl (L' := [some (.ref (A 5 0 0)), some (.ref (A 4 g o)), some (.ref (A 3 o 0)), some (.int 0), some (.int 0), some (.int (σ.2.1 14 g o)), none]) rfl ?_
      refine gx_iload dX5_workOut_76 rfl ?_
      refine gx_if_eq dX5_workOut_78 (tgt := 93) (by decide) (fun hc4 => ?_) (fun hc4 => absurd hc4 (by decide))
      refine gx_aload_n dX5_workOut_93 rfl ?_
      refine gx_get dX5_workOut_94 gf_X5_243 (gs_g4 R hp) (v := .int (σ.2.1 14 g o)) (rfl) ?_
      refine gx_istore dX5_workOut_97 (by decide) rfl (L' := [some (.ref (A 5 0 0)), some (.ref (A 4 g o)), some (.ref (A 3 o 0)), some (.int 0), some (.int 0), some (.int (σ.2.1 14 g o)), some (.int (σ.2.1 14 g o))]) rfl ?_
      refine gx_iload dX5_workOut_99 rfl ?_
      refine gx_if_eq dX5_workOut_101 (tgt := 121) (by decide) (fun hc5 => ?_) (fun hc5 => absurd hc5 (by decide))
      refine gx_iload_n dX5_workOut_121 rfl ?_
      refine gx_if_eq dX5_workOut_122 (tgt := 142) (by decide) (fun hc6 => ?_) (fun hc6 => absurd hc6 (by decide))
      refine gx_aload_n dX5_workOut_142 rfl ?_
      refine gx_iconst dX5_workOut_143 (v := 1) (by decide) ?_
      refine gp_I15 (σ := σ) hp dX5_workOut_144 gf_X5_162 R (by first | exact Or.inl rfl | exact Or.inr rfl) (v := 1) (fun h R hs0 => ?_)
      refine gx_aload_n dX5_workOut_147 rfl ?_
      refine gx_get dX5_workOut_148 gf_X5_150 (gs_g3 R ho) (v := .int (σ.2.1 3 o 0)) (rfl) ?_
      refine gx_if_ne dX5_workOut_151 (tgt := 196) (by decide) (fun hn => ?_) (fun hn => ?_)
      · refine gx_return dX5_workOut_196 ?_
        have e1 : sc_ua σ g o = σ.2.1 14 g o := by rw [sc_ua, if_neg ha]
        have e2 : sc_ub σ g o = σ.2.1 14 g o := by rw [sc_ub, if_neg hb]
        exact ⟨rfl, by rw [sc_wo, e1, e2]; simp only [sc_wt2]; rw [if_neg hb, if_neg ha, if_neg hn]; exact R, rfl⟩
      · refine gx_aload_n dX5_workOut_154 rfl ?_
        refine gx_iconst dX5_workOut_155 (v := 1) (by decide) ?_
        refine gp_I3 (σ := (gs_i σ 15 g o 1)) ho dX5_workOut_156 gf_X5_150 R (by first | exact Or.inl rfl | exact Or.inr rfl) (v := 1) (fun h R hs1 => ?_)
        refine gx_aload_n dX5_workOut_159 rfl ?_
        refine gx_aload_n dX5_workOut_160 rfl ?_
        refine gx_iload dX5_workOut_161 rfl ?_
        refine gx_iload dX5_workOut_163 rfl ?_
        refine gx_invV dX5_workOut_165 wm_X5_271 gt_X3_reply wy_X3_reply wl_X3_reply (ci := 3) rfl rfl (gs_g3 R ho) (As := [.int (σ.2.1 14 g o), .int (σ.2.1 14 g o)]) (rest := [.ref (A 3 o 0)]) rfl rfl (Nat.le_of_ble_eq_true rfl) (by decide) (cc_X3_reply R W ho (σ.2.1 14 g o) (σ.2.1 14 g o)) (fun r1 h q1 => ?_)
        obtain ⟨rfl, rfl⟩ := q1
        show gx_Ev _ _ _ _ _ [.int (sc_rp σ o (σ.2.1 14 g o) (σ.2.1 14 g o)), .ref (A 3 o 0)] _ _
        refine gp_I4 (σ := (gs_i (gs_i σ 15 g o 1) 3 o 0 1)) ho dX5_workOut_168 gf_X5_144 R (v := sc_rp σ o (σ.2.1 14 g o) (σ.2.1 14 g o)) (fun h R hs2 => ?_)
        refine gx_aload_n dX5_workOut_171 rfl ?_
        refine gx_get dX5_workOut_172 gf_X5_13 (gs_g5 R ) (v := .ref (A 9 0 0)) (rfl) ?_
        refine gx_aload_n dX5_workOut_175 rfl ?_
        refine gx_get dX5_workOut_176 gf_X5_195 (gs_g3 R ho) (v := .int (nI (σ.1 12 o 0))) (by simp [gs_i, gs_n, gs_u]) ?_
        refine gx_aload_n dX5_workOut_179 rfl ?_
        refine gx_get dX5_workOut_180 gf_X5_13 (gs_g5 R ) (v := .ref (A 9 0 0)) (rfl) ?_
        refine gx_aload_n dX5_workOut_183 rfl ?_
        refine gx_get dX5_workOut_184 gf_X5_195 (gs_g3 R ho) (v := .int (nI (σ.1 12 o 0))) (by simp [gs_i, gs_n, gs_u]) ?_
        refine gq_9 dX5_workOut_187 R  (q := σ.1 12 o 0) (rfl) (by first | exact gw_a W o | exact gw_b W o | exact gw_c W o) (v := σ.2.1 20 (σ.1 12 o 0) 0) (rfl) ?_
        refine gx_aload_n dX5_workOut_188 rfl ?_
        refine gx_get dX5_workOut_189 gf_X5_159 (gs_g4 R hp) (v := .int (σ.2.1 10 g o)) (by simp [gs_i, gs_n, gs_u]) ?_
        refine gx_mmax dX5_workOut_192 wm_X5_41 (Nat.le_of_ble_eq_true rfl) (by decide) ?_
        rw [show (if (σ.2.1 20 (σ.1 12 o 0) 0) < (σ.2.1 10 g o) then (σ.2.1 10 g o) else (σ.2.1 20 (σ.1 12 o 0) 0)) = gs_mx (σ.2.1 20 (σ.1 12 o 0) 0) (σ.2.1 10 g o) from rfl]
        refine ga_I20 (σ := (gs_i (gs_i (gs_i σ 15 g o 1) 3 o 0 1) 4 o 0 (sc_rp σ o (σ.2.1 14 g o) (σ.2.1 14 g o))))  dX5_workOut_195 R (q := σ.1 12 o 0) (v := gs_mx (σ.2.1 20 (σ.1 12 o 0) 0) (σ.2.1 10 g o)) (rfl) (by first | exact gw_a W o | exact gw_b W o | exact gw_c W o) (fun h R hs3 => ?_)
        refine gx_return dX5_workOut_196 ?_
        have e1 : sc_ua σ g o = σ.2.1 14 g o := by rw [sc_ua, if_neg ha]
        have e2 : sc_ub σ g o = σ.2.1 14 g o := by rw [sc_ub, if_neg hb]
        exact ⟨rfl, by rw [sc_wo, e1, e2]; simp only [sc_wt2]; rw [if_neg hb, if_neg ha, if_pos hn]; exact R, rfl⟩
    · have hb := (nI_eq (by have := Nat.mod_lt (σ.1 14 o 0) (show 0 < σ.1 0 0 0 by omega); omega) (by omega)).mp hb
      refine gx_iconst dX5_workOut_47 (v := 1) (by decide) ?_
      refine gx_goto dX5_workOut_48 (tgt := 52) (by decide) ?_
      refine gx_istore dX5_workOut_52 (by decide) rfl (L' := [some (.ref (A 5 0 0)), some (.ref (A 4 g o)), some (.ref (A 3 o 0)), some (.int 0), some (.int 1), none, none]) rfl ?_
      refine gx_iload_n dX5_workOut_54 rfl ?_
      refine gx_if_eq dX5_workOut_55 (tgt := 70) (by decide) (fun hc8 => ?_) (fun hc8 => absurd hc8 (by decide))
      refine gx_aload_n dX5_workOut_70 rfl ?_
      refine gx_get dX5_workOut_71 gf_X5_243 (gs_g4 R hp) (v := .int (σ.2.1 14 g o)) (rfl) ?_
      refine gx_istore dX5_workOut_74 (by decide) rfl (L' := [some (.ref (A 5 0 0)), some (.ref (A 4 g o)), some (.ref (A 3 o 0)), some (.int 0), some (.int 1), some (.int (σ.2.1 14 g o)), none]) rfl ?_
      refine gx_iload dX5_workOut_76 rfl ?_
      refine gx_if_eq dX5_workOut_78 (tgt := 93) (by decide) (fun hc9 => absurd hc9 (by decide)) (fun hc9 => ?_)
      refine gx_aload_n dX5_workOut_81 rfl ?_
      refine gx_get dX5_workOut_82 gf_X5_9 (gs_g5 R ) (v := .ref (A 8 0 0)) (rfl) ?_
      refine gx_aload_n dX5_workOut_85 rfl ?_
      refine gx_get dX5_workOut_86 gf_X5_205 (gs_g3 R ho) (v := .int (nI (σ.1 14 o 0))) (rfl) ?_
      refine gq_8 dX5_workOut_89 R  (q := σ.1 14 o 0) (rfl) (by first | exact gw_a W o | exact gw_b W o | exact gw_c W o) (v := σ.2.1 19 (σ.1 14 o 0) 0) (rfl) ?_
      refine gx_goto dX5_workOut_90 (tgt := 97) (by decide) ?_
      refine gx_istore dX5_workOut_97 (by decide) rfl (L' := [some (.ref (A 5 0 0)), some (.ref (A 4 g o)), some (.ref (A 3 o 0)), some (.int 0), some (.int 1), some (.int (σ.2.1 14 g o)), some (.int (σ.2.1 19 (σ.1 14 o 0) 0))]) rfl ?_
      refine gx_iload dX5_workOut_99 rfl ?_
      refine gx_if_eq dX5_workOut_101 (tgt := 121) (by decide) (fun hc10 => absurd hc10 (by decide)) (fun hc10 => ?_)
      refine gx_aload_n dX5_workOut_104 rfl ?_
      refine gx_get dX5_workOut_105 gf_X5_9 (gs_g5 R ) (v := .ref (A 8 0 0)) (rfl) ?_
      refine gx_aload_n dX5_workOut_108 rfl ?_
      refine gx_get dX5_workOut_109 gf_X5_205 (gs_g3 R ho) (v := .int (nI (σ.1 14 o 0))) (rfl) ?_
      refine gx_aload_n dX5_workOut_112 rfl ?_
      refine gx_iload dX5_workOut_113 rfl ?_
      refine gx_iload dX5_workOut_115 rfl ?_
      refine gx_invV dX5_workOut_117 wm_X5_265 gt_X3_behindB wy_X3_behindB wl_X3_behindB (ci := 3) rfl rfl (gs_g3 R ho) (As := [.int (σ.2.1 14 g o), .int (σ.2.1 19 (σ.1 14 o 0) 0)]) (rest := [.int (nI (σ.1 14 o 0)), .ref (A 8 0 0)]) rfl rfl (Nat.le_of_ble_eq_true rfl) (by decide) (cc_X3_behindB R W ho (σ.2.1 14 g o) (σ.2.1 19 (σ.1 14 o 0) 0)) (fun r1 h q1 => ?_)
      obtain ⟨rfl, rfl⟩ := q1
      show gx_Ev _ _ _ _ _ [.int (sc_bB σ o (σ.2.1 14 g o) (σ.2.1 19 (σ.1 14 o 0) 0)), .int (nI (σ.1 14 o 0)), .ref (A 8 0 0)] _ _
      refine ga_I19 (σ := σ)  dX5_workOut_120 R (q := σ.1 14 o 0) (v := sc_bB σ o (σ.2.1 14 g o) (σ.2.1 19 (σ.1 14 o 0) 0)) (rfl) (by first | exact gw_a W o | exact gw_b W o | exact gw_c W o) (fun h R hs0 => ?_)
      refine gx_iload_n dX5_workOut_121 rfl ?_
      refine gx_if_eq dX5_workOut_122 (tgt := 142) (by decide) (fun hc11 => ?_) (fun hc11 => absurd hc11 (by decide))
      refine gx_aload_n dX5_workOut_142 rfl ?_
      refine gx_iconst dX5_workOut_143 (v := 1) (by decide) ?_
      refine gp_I15 (σ := (gs_i σ 19 (σ.1 14 o 0) 0 (sc_bB σ o (σ.2.1 14 g o) (σ.2.1 19 (σ.1 14 o 0) 0)))) hp dX5_workOut_144 gf_X5_162 R (by first | exact Or.inl rfl | exact Or.inr rfl) (v := 1) (fun h R hs1 => ?_)
      refine gx_aload_n dX5_workOut_147 rfl ?_
      refine gx_get dX5_workOut_148 gf_X5_150 (gs_g3 R ho) (v := .int (σ.2.1 3 o 0)) (rfl) ?_
      refine gx_if_ne dX5_workOut_151 (tgt := 196) (by decide) (fun hn => ?_) (fun hn => ?_)
      · refine gx_return dX5_workOut_196 ?_
        have e1 : sc_ua σ g o = σ.2.1 14 g o := by rw [sc_ua, if_neg ha]
        have e2 : sc_ub σ g o = σ.2.1 19 (σ.1 14 o 0) 0 := by rw [sc_ub, if_pos hb]
        exact ⟨rfl, by rw [sc_wo, e1, e2]; simp only [sc_wt2]; rw [if_pos hb, if_neg ha, if_neg hn]; exact R, rfl⟩
      · refine gx_aload_n dX5_workOut_154 rfl ?_
        refine gx_iconst dX5_workOut_155 (v := 1) (by decide) ?_
        refine gp_I3 (σ := (gs_i (gs_i σ 19 (σ.1 14 o 0) 0 (sc_bB σ o (σ.2.1 14 g o) (σ.2.1 19 (σ.1 14 o 0) 0))) 15 g o 1)) ho dX5_workOut_156 gf_X5_150 R (by first | exact Or.inl rfl | exact Or.inr rfl) (v := 1) (fun h R hs2 => ?_)
        refine gx_aload_n dX5_workOut_159 rfl ?_
        refine gx_aload_n dX5_workOut_160 rfl ?_
        refine gx_iload dX5_workOut_161 rfl ?_
        refine gx_iload dX5_workOut_163 rfl ?_
        refine gx_invV dX5_workOut_165 wm_X5_271 gt_X3_reply wy_X3_reply wl_X3_reply (ci := 3) rfl rfl (gs_g3 R ho) (As := [.int (σ.2.1 14 g o), .int (σ.2.1 19 (σ.1 14 o 0) 0)]) (rest := [.ref (A 3 o 0)]) rfl rfl (Nat.le_of_ble_eq_true rfl) (by decide) (cc_X3_reply R W ho (σ.2.1 14 g o) (σ.2.1 19 (σ.1 14 o 0) 0)) (fun r1 h q1 => ?_)
        obtain ⟨rfl, rfl⟩ := q1
        show gx_Ev _ _ _ _ _ [.int (sc_rp σ o (σ.2.1 14 g o) (σ.2.1 19 (σ.1 14 o 0) 0)), .ref (A 3 o 0)] _ _
        refine gp_I4 (σ := (gs_i (gs_i (gs_i σ 19 (σ.1 14 o 0) 0 (sc_bB σ o (σ.2.1 14 g o) (σ.2.1 19 (σ.1 14 o 0) 0))) 15 g o 1) 3 o 0 1)) ho dX5_workOut_168 gf_X5_144 R (v := sc_rp σ o (σ.2.1 14 g o) (σ.2.1 19 (σ.1 14 o 0) 0)) (fun h R hs3 => ?_)
        refine gx_aload_n dX5_workOut_171 rfl ?_
        refine gx_get dX5_workOut_172 gf_X5_13 (gs_g5 R ) (v := .ref (A 9 0 0)) (rfl) ?_
        refine gx_aload_n dX5_workOut_175 rfl ?_
        refine gx_get dX5_workOut_176 gf_X5_195 (gs_g3 R ho) (v := .int (nI (σ.1 12 o 0))) (by simp [gs_i, gs_n, gs_u]) ?_
        refine gx_aload_n dX5_workOut_179 rfl ?_
        refine gx_get dX5_workOut_180 gf_X5_13 (gs_g5 R ) (v := .ref (A 9 0 0)) (rfl) ?_
        refine gx_aload_n dX5_workOut_183 rfl ?_
        refine gx_get dX5_workOut_184 gf_X5_195 (gs_g3 R ho) (v := .int (nI (σ.1 12 o 0))) (by simp [gs_i, gs_n, gs_u]) ?_
        refine gq_9 dX5_workOut_187 R  (q := σ.1 12 o 0) (rfl) (by first | exact gw_a W o | exact gw_b W o | exact gw_c W o) (v := σ.2.1 20 (σ.1 12 o 0) 0) (rfl) ?_
        refine gx_aload_n dX5_workOut_188 rfl ?_
        refine gx_get dX5_workOut_189 gf_X5_159 (gs_g4 R hp) (v := .int (σ.2.1 10 g o)) (by simp [gs_i, gs_n, gs_u]) ?_
        refine gx_mmax dX5_workOut_192 wm_X5_41 (Nat.le_of_ble_eq_true rfl) (by decide) ?_
        rw [show (if (σ.2.1 20 (σ.1 12 o 0) 0) < (σ.2.1 10 g o) then (σ.2.1 10 g o) else (σ.2.1 20 (σ.1 12 o 0) 0)) = gs_mx (σ.2.1 20 (σ.1 12 o 0) 0) (σ.2.1 10 g o) from rfl]
        refine ga_I20 (σ := (gs_i (gs_i (gs_i (gs_i σ 19 (σ.1 14 o 0) 0 (sc_bB σ o (σ.2.1 14 g o) (σ.2.1 19 (σ.1 14 o 0) 0))) 15 g o 1) 3 o 0 1) 4 o 0 (sc_rp σ o (σ.2.1 14 g o) (σ.2.1 19 (σ.1 14 o 0) 0))))  dX5_workOut_195 R (q := σ.1 12 o 0) (v := gs_mx (σ.2.1 20 (σ.1 12 o 0) 0) (σ.2.1 10 g o)) (rfl) (by first | exact gw_a W o | exact gw_b W o | exact gw_c W o) (fun h R hs4 => ?_)
        refine gx_return dX5_workOut_196 ?_
        have e1 : sc_ua σ g o = σ.2.1 14 g o := by rw [sc_ua, if_neg ha]
        have e2 : sc_ub σ g o = σ.2.1 19 (σ.1 14 o 0) 0 := by rw [sc_ub, if_pos hb]
        exact ⟨rfl, by rw [sc_wo, e1, e2]; simp only [sc_wt2]; rw [if_pos hb, if_neg ha, if_pos hn]; exact R, rfl⟩
  · have ha := (nI_eq (by have := Nat.mod_lt (σ.1 13 o 0) (show 0 < σ.1 0 0 0 by omega); omega) (by omega)).mp ha
    refine gx_iconst dX5_workOut_23 (v := 1) (by decide) ?_
    refine gx_goto dX5_workOut_24 (tgt := 28) (by decide) ?_
    refine gx_istore_n dX5_workOut_28 (by decide) rfl (L' := [some (.ref (A 5 0 0)), some (.ref (A 4 g o)), some (.ref (A 3 o 0)), some (.int 1), none, none, none]) rfl ?_
    refine gx_aload_n dX5_workOut_29 rfl ?_
    refine gx_aload_n dX5_workOut_30 rfl ?_
    refine gx_get dX5_workOut_31 gf_X5_205 (gs_g3 R ho) (v := .int (nI (σ.1 14 o 0))) (rfl) ?_
    refine gx_invV dX5_workOut_34 wm_X5_201 gt_X5_keeperOf wy_X5_keeperOf wl_X5_keeperOf (ci := 5) rfl rfl (gs_g5 R ) (As := [.int (nI (σ.1 14 o 0))]) (rest := []) rfl rfl (Nat.le_of_ble_eq_true rfl) (by decide) (cc_X5_keeperOf R W (k := σ.1 14 o 0) (gw_b W o)) (fun r1 h q1 => ?_)
    obtain ⟨rfl, rfl⟩ := q1
    show gx_Ev _ _ _ _ _ [.ref (A 1 (σ.1 14 o 0 % σ.1 0 0 0) 0)] _ _
    refine gx_get dX5_workOut_37 gf_X5_208 (gs_g1 R (gw_g W hkb)) (v := .int (nI (σ.1 14 o 0 % σ.1 0 0 0))) (rfl) ?_
    refine gx_aload_n dX5_workOut_40 rfl ?_
    refine gx_get dX5_workOut_41 gf_X5_125 (gs_g4 R hp) (v := .int (nI g)) (rfl) ?_
    refine gx_icmp_ne dX5_workOut_44 (tgt := 51) (by decide) (fun hb => ?_) (fun hb => ?_)
    · have hb : ¬ σ.1 14 o 0 % σ.1 0 0 0 = g := fun z => hb (congrArg nI z)
      refine gx_iconst dX5_workOut_51 (v := 0) (by decide) ?_
      refine gx_istore dX5_workOut_52 (by decide) rfl (L' := [some (.ref (A 5 0 0)), some (.ref (A 4 g o)), some (.ref (A 3 o 0)), some (.int 1), some (.int 0), none, none]) rfl ?_
      refine gx_iload_n dX5_workOut_54 rfl ?_
      refine gx_if_eq dX5_workOut_55 (tgt := 70) (by decide) (fun hc14 => absurd hc14 (by decide)) (fun hc14 => ?_)
      refine gx_aload_n dX5_workOut_58 rfl ?_
      refine gx_get dX5_workOut_59 gf_X5_9 (gs_g5 R ) (v := .ref (A 8 0 0)) (rfl) ?_
      refine gx_aload_n dX5_workOut_62 rfl ?_
      refine gx_get dX5_workOut_63 gf_X5_198 (gs_g3 R ho) (v := .int (nI (σ.1 13 o 0))) (rfl) ?_
      refine gq_8 dX5_workOut_66 R  (q := σ.1 13 o 0) (rfl) (by first | exact gw_a W o | exact gw_b W o | exact gw_c W o) (v := σ.2.1 19 (σ.1 13 o 0) 0) (rfl) ?_
      refine gx_goto dX5_workOut_67 (tgt := 74) (by decide) ?_
      refine gx_istore dX5_workOut_74 (by decide) rfl (L' := [some (.ref (A 5 0 0)), some (.ref (A 4 g o)), some (.ref (A 3 o 0)), some (.int 1), some (.int 0), some (.int (σ.2.1 19 (σ.1 13 o 0) 0)), none]) rfl ?_
      refine gx_iload dX5_workOut_76 rfl ?_
      refine gx_if_eq dX5_workOut_78 (tgt := 93) (by decide) (fun hc15 => ?_) (fun hc15 => absurd hc15 (by decide))
      refine gx_aload_n dX5_workOut_93 rfl ?_
      refine gx_get dX5_workOut_94 gf_X5_243 (gs_g4 R hp) (v := .int (σ.2.1 14 g o)) (rfl) ?_
      refine gx_istore dX5_workOut_97 (by decide) rfl (L' := [some (.ref (A 5 0 0)), some (.ref (A 4 g o)), some (.ref (A 3 o 0)), some (.int 1), some (.int 0), some (.int (σ.2.1 19 (σ.1 13 o 0) 0)), some (.int (σ.2.1 14 g o))]) rfl ?_
      refine gx_iload dX5_workOut_99 rfl ?_
      refine gx_if_eq dX5_workOut_101 (tgt := 121) (by decide) (fun hc16 => ?_) (fun hc16 => absurd hc16 (by decide))
      refine gx_iload_n dX5_workOut_121 rfl ?_
      refine gx_if_eq dX5_workOut_122 (tgt := 142) (by decide) (fun hc17 => absurd hc17 (by decide)) (fun hc17 => ?_)
      refine gx_aload_n dX5_workOut_125 rfl ?_
      refine gx_get dX5_workOut_126 gf_X5_9 (gs_g5 R ) (v := .ref (A 8 0 0)) (rfl) ?_
      refine gx_aload_n dX5_workOut_129 rfl ?_
      refine gx_get dX5_workOut_130 gf_X5_198 (gs_g3 R ho) (v := .int (nI (σ.1 13 o 0))) (rfl) ?_
      refine gx_aload_n dX5_workOut_133 rfl ?_
      refine gx_iload dX5_workOut_134 rfl ?_
      refine gx_iload dX5_workOut_136 rfl ?_
      refine gx_invV dX5_workOut_138 wm_X5_268 gt_X3_behindA wy_X3_behindA wl_X3_behindA (ci := 3) rfl rfl (gs_g3 R ho) (As := [.int (σ.2.1 19 (σ.1 13 o 0) 0), .int (σ.2.1 14 g o)]) (rest := [.int (nI (σ.1 13 o 0)), .ref (A 8 0 0)]) rfl rfl (Nat.le_of_ble_eq_true rfl) (by decide) (cc_X3_behindA R W ho (σ.2.1 19 (σ.1 13 o 0) 0) (σ.2.1 14 g o)) (fun r1 h q1 => ?_)
      obtain ⟨rfl, rfl⟩ := q1
      show gx_Ev _ _ _ _ _ [.int (sc_bA σ o (σ.2.1 19 (σ.1 13 o 0) 0) (σ.2.1 14 g o)), .int (nI (σ.1 13 o 0)), .ref (A 8 0 0)] _ _
      refine ga_I19 (σ := σ)  dX5_workOut_141 R (q := σ.1 13 o 0) (v := sc_bA σ o (σ.2.1 19 (σ.1 13 o 0) 0) (σ.2.1 14 g o)) (rfl) (by first | exact gw_a W o | exact gw_b W o | exact gw_c W o) (fun h R hs0 => ?_)
      refine gx_aload_n dX5_workOut_142 rfl ?_
      refine gx_iconst dX5_workOut_143 (v := 1) (by decide) ?_
      refine gp_I15 (σ := (gs_i σ 19 (σ.1 13 o 0) 0 (sc_bA σ o (σ.2.1 19 (σ.1 13 o 0) 0) (σ.2.1 14 g o)))) hp dX5_workOut_144 gf_X5_162 R (by first | exact Or.inl rfl | exact Or.inr rfl) (v := 1) (fun h R hs1 => ?_)
      refine gx_aload_n dX5_workOut_147 rfl ?_
      refine gx_get dX5_workOut_148 gf_X5_150 (gs_g3 R ho) (v := .int (σ.2.1 3 o 0)) (rfl) ?_
      refine gx_if_ne dX5_workOut_151 (tgt := 196) (by decide) (fun hn => ?_) (fun hn => ?_)
      · refine gx_return dX5_workOut_196 ?_
        have e1 : sc_ua σ g o = σ.2.1 19 (σ.1 13 o 0) 0 := by rw [sc_ua, if_pos ha]
        have e2 : sc_ub σ g o = σ.2.1 14 g o := by rw [sc_ub, if_neg hb]
        exact ⟨rfl, by rw [sc_wo, e1, e2]; simp only [sc_wt2]; rw [if_neg hb, if_pos ha, if_neg hn]; exact R, rfl⟩
      · refine gx_aload_n dX5_workOut_154 rfl ?_
        refine gx_iconst dX5_workOut_155 (v := 1) (by decide) ?_
        refine gp_I3 (σ := (gs_i (gs_i σ 19 (σ.1 13 o 0) 0 (sc_bA σ o (σ.2.1 19 (σ.1 13 o 0) 0) (σ.2.1 14 g o))) 15 g o 1)) ho dX5_workOut_156 gf_X5_150 R (by first | exact Or.inl rfl | exact Or.inr rfl) (v := 1) (fun h R hs2 => ?_)
        refine gx_aload_n dX5_workOut_159 rfl ?_
        refine gx_aload_n dX5_workOut_160 rfl ?_
        refine gx_iload dX5_workOut_161 rfl ?_
        refine gx_iload dX5_workOut_163 rfl ?_
        refine gx_invV dX5_workOut_165 wm_X5_271 gt_X3_reply wy_X3_reply wl_X3_reply (ci := 3) rfl rfl (gs_g3 R ho) (As := [.int (σ.2.1 19 (σ.1 13 o 0) 0), .int (σ.2.1 14 g o)]) (rest := [.ref (A 3 o 0)]) rfl rfl (Nat.le_of_ble_eq_true rfl) (by decide) (cc_X3_reply R W ho (σ.2.1 19 (σ.1 13 o 0) 0) (σ.2.1 14 g o)) (fun r1 h q1 => ?_)
        obtain ⟨rfl, rfl⟩ := q1
        show gx_Ev _ _ _ _ _ [.int (sc_rp σ o (σ.2.1 19 (σ.1 13 o 0) 0) (σ.2.1 14 g o)), .ref (A 3 o 0)] _ _
        refine gp_I4 (σ := (gs_i (gs_i (gs_i σ 19 (σ.1 13 o 0) 0 (sc_bA σ o (σ.2.1 19 (σ.1 13 o 0) 0) (σ.2.1 14 g o))) 15 g o 1) 3 o 0 1)) ho dX5_workOut_168 gf_X5_144 R (v := sc_rp σ o (σ.2.1 19 (σ.1 13 o 0) 0) (σ.2.1 14 g o)) (fun h R hs3 => ?_)
        refine gx_aload_n dX5_workOut_171 rfl ?_
        refine gx_get dX5_workOut_172 gf_X5_13 (gs_g5 R ) (v := .ref (A 9 0 0)) (rfl) ?_
        refine gx_aload_n dX5_workOut_175 rfl ?_
        refine gx_get dX5_workOut_176 gf_X5_195 (gs_g3 R ho) (v := .int (nI (σ.1 12 o 0))) (by simp [gs_i, gs_n, gs_u]) ?_
        refine gx_aload_n dX5_workOut_179 rfl ?_
        refine gx_get dX5_workOut_180 gf_X5_13 (gs_g5 R ) (v := .ref (A 9 0 0)) (rfl) ?_
        refine gx_aload_n dX5_workOut_183 rfl ?_
        refine gx_get dX5_workOut_184 gf_X5_195 (gs_g3 R ho) (v := .int (nI (σ.1 12 o 0))) (by simp [gs_i, gs_n, gs_u]) ?_
        refine gq_9 dX5_workOut_187 R  (q := σ.1 12 o 0) (rfl) (by first | exact gw_a W o | exact gw_b W o | exact gw_c W o) (v := σ.2.1 20 (σ.1 12 o 0) 0) (rfl) ?_
        refine gx_aload_n dX5_workOut_188 rfl ?_
        refine gx_get dX5_workOut_189 gf_X5_159 (gs_g4 R hp) (v := .int (σ.2.1 10 g o)) (by simp [gs_i, gs_n, gs_u]) ?_
        refine gx_mmax dX5_workOut_192 wm_X5_41 (Nat.le_of_ble_eq_true rfl) (by decide) ?_
        rw [show (if (σ.2.1 20 (σ.1 12 o 0) 0) < (σ.2.1 10 g o) then (σ.2.1 10 g o) else (σ.2.1 20 (σ.1 12 o 0) 0)) = gs_mx (σ.2.1 20 (σ.1 12 o 0) 0) (σ.2.1 10 g o) from rfl]
        refine ga_I20 (σ := (gs_i (gs_i (gs_i (gs_i σ 19 (σ.1 13 o 0) 0 (sc_bA σ o (σ.2.1 19 (σ.1 13 o 0) 0) (σ.2.1 14 g o))) 15 g o 1) 3 o 0 1) 4 o 0 (sc_rp σ o (σ.2.1 19 (σ.1 13 o 0) 0) (σ.2.1 14 g o))))  dX5_workOut_195 R (q := σ.1 12 o 0) (v := gs_mx (σ.2.1 20 (σ.1 12 o 0) 0) (σ.2.1 10 g o)) (rfl) (by first | exact gw_a W o | exact gw_b W o | exact gw_c W o) (fun h R hs4 => ?_)
        refine gx_return dX5_workOut_196 ?_
        have e1 : sc_ua σ g o = σ.2.1 19 (σ.1 13 o 0) 0 := by rw [sc_ua, if_pos ha]
        have e2 : sc_ub σ g o = σ.2.1 14 g o := by rw [sc_ub, if_neg hb]
        exact ⟨rfl, by rw [sc_wo, e1, e2]; simp only [sc_wt2]; rw [if_neg hb, if_pos ha, if_pos hn]; exact R, rfl⟩
    · have hb := (nI_eq (by have := Nat.mod_lt (σ.1 14 o 0) (show 0 < σ.1 0 0 0 by omega); omega) (by omega)).mp hb
      refine gx_iconst dX5_workOut_47 (v := 1) (by decide) ?_
      refine gx_goto dX5_workOut_48 (tgt := 52) (by decide) ?_
      refine gx_istore dX5_workOut_52 (by decide) rfl (L' := [some (.ref (A 5 0 0)), some (.ref (A 4 g o)), some (.ref (A 3 o 0)), some (.int 1), some (.int 1), none, none]) rfl ?_
      refine gx_iload_n dX5_workOut_54 rfl ?_
      refine gx_if_eq dX5_workOut_55 (tgt := 70) (by decide) (fun hc19 => absurd hc19 (by decide)) (fun hc19 => ?_)
      refine gx_aload_n dX5_workOut_58 rfl ?_
      refine gx_get dX5_workOut_59 gf_X5_9 (gs_g5 R ) (v := .ref (A 8 0 0)) (rfl) ?_
      refine gx_aload_n dX5_workOut_62 rfl ?_
      refine gx_get dX5_workOut_63 gf_X5_198 (gs_g3 R ho) (v := .int (nI (σ.1 13 o 0))) (rfl) ?_
      refine gq_8 dX5_workOut_66 R  (q := σ.1 13 o 0) (rfl) (by first | exact gw_a W o | exact gw_b W o | exact gw_c W o) (v := σ.2.1 19 (σ.1 13 o 0) 0) (rfl) ?_
      refine gx_goto dX5_workOut_67 (tgt := 74) (by decide) ?_
      refine gx_istore dX5_workOut_74 (by decide) rfl (L' := [some (.ref (A 5 0 0)), some (.ref (A 4 g o)), some (.ref (A 3 o 0)), some (.int 1), some (.int 1), some (.int (σ.2.1 19 (σ.1 13 o 0) 0)), none]) rfl ?_
      refine gx_iload dX5_workOut_76 rfl ?_
      refine gx_if_eq dX5_workOut_78 (tgt := 93) (by decide) (fun hc20 => absurd hc20 (by decide)) (fun hc20 => ?_)
      refine gx_aload_n dX5_workOut_81 rfl ?_
      refine gx_get dX5_workOut_82 gf_X5_9 (gs_g5 R ) (v := .ref (A 8 0 0)) (rfl) ?_
      refine gx_aload_n dX5_workOut_85 rfl ?_
      refine gx_get dX5_workOut_86 gf_X5_205 (gs_g3 R ho) (v := .int (nI (σ.1 14 o 0))) (rfl) ?_
      refine gq_8 dX5_workOut_89 R  (q := σ.1 14 o 0) (rfl) (by first | exact gw_a W o | exact gw_b W o | exact gw_c W o) (v := σ.2.1 19 (σ.1 14 o 0) 0) (rfl) ?_
      refine gx_goto dX5_workOut_90 (tgt := 97) (by decide) ?_
      refine gx_istore dX5_workOut_97 (by decide) rfl (L' := [some (.ref (A 5 0 0)), some (.ref (A 4 g o)), some (.ref (A 3 o 0)), some (.int 1), some (.int 1), some (.int (σ.2.1 19 (σ.1 13 o 0) 0)), some (.int (σ.2.1 19 (σ.1 14 o 0) 0))]) rfl ?_
      refine gx_iload dX5_workOut_99 rfl ?_
      refine gx_if_eq dX5_workOut_101 (tgt := 121) (by decide) (fun hc21 => absurd hc21 (by decide)) (fun hc21 => ?_)
      refine gx_aload_n dX5_workOut_104 rfl ?_
      refine gx_get dX5_workOut_105 gf_X5_9 (gs_g5 R ) (v := .ref (A 8 0 0)) (rfl) ?_
      refine gx_aload_n dX5_workOut_108 rfl ?_
      refine gx_get dX5_workOut_109 gf_X5_205 (gs_g3 R ho) (v := .int (nI (σ.1 14 o 0))) (rfl) ?_
      refine gx_aload_n dX5_workOut_112 rfl ?_
      refine gx_iload dX5_workOut_113 rfl ?_
      refine gx_iload dX5_workOut_115 rfl ?_
      refine gx_invV dX5_workOut_117 wm_X5_265 gt_X3_behindB wy_X3_behindB wl_X3_behindB (ci := 3) rfl rfl (gs_g3 R ho) (As := [.int (σ.2.1 19 (σ.1 13 o 0) 0), .int (σ.2.1 19 (σ.1 14 o 0) 0)]) (rest := [.int (nI (σ.1 14 o 0)), .ref (A 8 0 0)]) rfl rfl (Nat.le_of_ble_eq_true rfl) (by decide) (cc_X3_behindB R W ho (σ.2.1 19 (σ.1 13 o 0) 0) (σ.2.1 19 (σ.1 14 o 0) 0)) (fun r1 h q1 => ?_)
      obtain ⟨rfl, rfl⟩ := q1
      show gx_Ev _ _ _ _ _ [.int (sc_bB σ o (σ.2.1 19 (σ.1 13 o 0) 0) (σ.2.1 19 (σ.1 14 o 0) 0)), .int (nI (σ.1 14 o 0)), .ref (A 8 0 0)] _ _
      refine ga_I19 (σ := σ)  dX5_workOut_120 R (q := σ.1 14 o 0) (v := sc_bB σ o (σ.2.1 19 (σ.1 13 o 0) 0) (σ.2.1 19 (σ.1 14 o 0) 0)) (rfl) (by first | exact gw_a W o | exact gw_b W o | exact gw_c W o) (fun h R hs0 => ?_)
      refine gx_iload_n dX5_workOut_121 rfl ?_
      refine gx_if_eq dX5_workOut_122 (tgt := 142) (by decide) (fun hc22 => absurd hc22 (by decide)) (fun hc22 => ?_)
      refine gx_aload_n dX5_workOut_125 rfl ?_
      refine gx_get dX5_workOut_126 gf_X5_9 (gs_g5 R ) (v := .ref (A 8 0 0)) (rfl) ?_
      refine gx_aload_n dX5_workOut_129 rfl ?_
      refine gx_get dX5_workOut_130 gf_X5_198 (gs_g3 R ho) (v := .int (nI (σ.1 13 o 0))) (rfl) ?_
      refine gx_aload_n dX5_workOut_133 rfl ?_
      refine gx_iload dX5_workOut_134 rfl ?_
      refine gx_iload dX5_workOut_136 rfl ?_
      refine gx_invV dX5_workOut_138 wm_X5_268 gt_X3_behindA wy_X3_behindA wl_X3_behindA (ci := 3) rfl rfl (gs_g3 R ho) (As := [.int (σ.2.1 19 (σ.1 13 o 0) 0), .int (σ.2.1 19 (σ.1 14 o 0) 0)]) (rest := [.int (nI (σ.1 13 o 0)), .ref (A 8 0 0)]) rfl rfl (Nat.le_of_ble_eq_true rfl) (by decide) (cc_X3_behindA R W ho (σ.2.1 19 (σ.1 13 o 0) 0) (σ.2.1 19 (σ.1 14 o 0) 0)) (fun r1 h q1 => ?_)
      obtain ⟨rfl, rfl⟩ := q1
      show gx_Ev _ _ _ _ _ [.int (sc_bA σ o (σ.2.1 19 (σ.1 13 o 0) 0) (σ.2.1 19 (σ.1 14 o 0) 0)), .int (nI (σ.1 13 o 0)), .ref (A 8 0 0)] _ _
      refine ga_I19 (σ := (gs_i σ 19 (σ.1 14 o 0) 0 (sc_bB σ o (σ.2.1 19 (σ.1 13 o 0) 0) (σ.2.1 19 (σ.1 14 o 0) 0))))  dX5_workOut_141 R (q := σ.1 13 o 0) (v := sc_bA σ o (σ.2.1 19 (σ.1 13 o 0) 0) (σ.2.1 19 (σ.1 14 o 0) 0)) (rfl) (by first | exact gw_a W o | exact gw_b W o | exact gw_c W o) (fun h R hs1 => ?_)
      refine gx_aload_n dX5_workOut_142 rfl ?_
      refine gx_iconst dX5_workOut_143 (v := 1) (by decide) ?_
      refine gp_I15 (σ := (gs_i (gs_i σ 19 (σ.1 14 o 0) 0 (sc_bB σ o (σ.2.1 19 (σ.1 13 o 0) 0) (σ.2.1 19 (σ.1 14 o 0) 0))) 19 (σ.1 13 o 0) 0 (sc_bA σ o (σ.2.1 19 (σ.1 13 o 0) 0) (σ.2.1 19 (σ.1 14 o 0) 0)))) hp dX5_workOut_144 gf_X5_162 R (by first | exact Or.inl rfl | exact Or.inr rfl) (v := 1) (fun h R hs2 => ?_)
      refine gx_aload_n dX5_workOut_147 rfl ?_
      refine gx_get dX5_workOut_148 gf_X5_150 (gs_g3 R ho) (v := .int (σ.2.1 3 o 0)) (rfl) ?_
      refine gx_if_ne dX5_workOut_151 (tgt := 196) (by decide) (fun hn => ?_) (fun hn => ?_)
      · refine gx_return dX5_workOut_196 ?_
        have e1 : sc_ua σ g o = σ.2.1 19 (σ.1 13 o 0) 0 := by rw [sc_ua, if_pos ha]
        have e2 : sc_ub σ g o = σ.2.1 19 (σ.1 14 o 0) 0 := by rw [sc_ub, if_pos hb]
        exact ⟨rfl, by rw [sc_wo, e1, e2]; simp only [sc_wt2]; rw [if_pos hb, if_pos ha, if_neg hn]; exact R, rfl⟩
      · refine gx_aload_n dX5_workOut_154 rfl ?_
        refine gx_iconst dX5_workOut_155 (v := 1) (by decide) ?_
        refine gp_I3 (σ := (gs_i (gs_i (gs_i σ 19 (σ.1 14 o 0) 0 (sc_bB σ o (σ.2.1 19 (σ.1 13 o 0) 0) (σ.2.1 19 (σ.1 14 o 0) 0))) 19 (σ.1 13 o 0) 0 (sc_bA σ o (σ.2.1 19 (σ.1 13 o 0) 0) (σ.2.1 19 (σ.1 14 o 0) 0))) 15 g o 1)) ho dX5_workOut_156 gf_X5_150 R (by first | exact Or.inl rfl | exact Or.inr rfl) (v := 1) (fun h R hs3 => ?_)
        refine gx_aload_n dX5_workOut_159 rfl ?_
        refine gx_aload_n dX5_workOut_160 rfl ?_
        refine gx_iload dX5_workOut_161 rfl ?_
        refine gx_iload dX5_workOut_163 rfl ?_
        refine gx_invV dX5_workOut_165 wm_X5_271 gt_X3_reply wy_X3_reply wl_X3_reply (ci := 3) rfl rfl (gs_g3 R ho) (As := [.int (σ.2.1 19 (σ.1 13 o 0) 0), .int (σ.2.1 19 (σ.1 14 o 0) 0)]) (rest := [.ref (A 3 o 0)]) rfl rfl (Nat.le_of_ble_eq_true rfl) (by decide) (cc_X3_reply R W ho (σ.2.1 19 (σ.1 13 o 0) 0) (σ.2.1 19 (σ.1 14 o 0) 0)) (fun r1 h q1 => ?_)
        obtain ⟨rfl, rfl⟩ := q1
        show gx_Ev _ _ _ _ _ [.int (sc_rp σ o (σ.2.1 19 (σ.1 13 o 0) 0) (σ.2.1 19 (σ.1 14 o 0) 0)), .ref (A 3 o 0)] _ _
        refine gp_I4 (σ := (gs_i (gs_i (gs_i (gs_i σ 19 (σ.1 14 o 0) 0 (sc_bB σ o (σ.2.1 19 (σ.1 13 o 0) 0) (σ.2.1 19 (σ.1 14 o 0) 0))) 19 (σ.1 13 o 0) 0 (sc_bA σ o (σ.2.1 19 (σ.1 13 o 0) 0) (σ.2.1 19 (σ.1 14 o 0) 0))) 15 g o 1) 3 o 0 1)) ho dX5_workOut_168 gf_X5_144 R (v := sc_rp σ o (σ.2.1 19 (σ.1 13 o 0) 0) (σ.2.1 19 (σ.1 14 o 0) 0)) (fun h R hs4 => ?_)
        refine gx_aload_n dX5_workOut_171 rfl ?_
        refine gx_get dX5_workOut_172 gf_X5_13 (gs_g5 R ) (v := .ref (A 9 0 0)) (rfl) ?_
        refine gx_aload_n dX5_workOut_175 rfl ?_
        refine gx_get dX5_workOut_176 gf_X5_195 (gs_g3 R ho) (v := .int (nI (σ.1 12 o 0))) (by simp [gs_i, gs_n, gs_u]) ?_
        refine gx_aload_n dX5_workOut_179 rfl ?_
        refine gx_get dX5_workOut_180 gf_X5_13 (gs_g5 R ) (v := .ref (A 9 0 0)) (rfl) ?_
        refine gx_aload_n dX5_workOut_183 rfl ?_
        refine gx_get dX5_workOut_184 gf_X5_195 (gs_g3 R ho) (v := .int (nI (σ.1 12 o 0))) (by simp [gs_i, gs_n, gs_u]) ?_
        refine gq_9 dX5_workOut_187 R  (q := σ.1 12 o 0) (rfl) (by first | exact gw_a W o | exact gw_b W o | exact gw_c W o) (v := σ.2.1 20 (σ.1 12 o 0) 0) (rfl) ?_
        refine gx_aload_n dX5_workOut_188 rfl ?_
        refine gx_get dX5_workOut_189 gf_X5_159 (gs_g4 R hp) (v := .int (σ.2.1 10 g o)) (by simp [gs_i, gs_n, gs_u]) ?_
        refine gx_mmax dX5_workOut_192 wm_X5_41 (Nat.le_of_ble_eq_true rfl) (by decide) ?_
        rw [show (if (σ.2.1 20 (σ.1 12 o 0) 0) < (σ.2.1 10 g o) then (σ.2.1 10 g o) else (σ.2.1 20 (σ.1 12 o 0) 0)) = gs_mx (σ.2.1 20 (σ.1 12 o 0) 0) (σ.2.1 10 g o) from rfl]
        refine ga_I20 (σ := (gs_i (gs_i (gs_i (gs_i (gs_i σ 19 (σ.1 14 o 0) 0 (sc_bB σ o (σ.2.1 19 (σ.1 13 o 0) 0) (σ.2.1 19 (σ.1 14 o 0) 0))) 19 (σ.1 13 o 0) 0 (sc_bA σ o (σ.2.1 19 (σ.1 13 o 0) 0) (σ.2.1 19 (σ.1 14 o 0) 0))) 15 g o 1) 3 o 0 1) 4 o 0 (sc_rp σ o (σ.2.1 19 (σ.1 13 o 0) 0) (σ.2.1 19 (σ.1 14 o 0) 0))))  dX5_workOut_195 R (q := σ.1 12 o 0) (v := gs_mx (σ.2.1 20 (σ.1 12 o 0) 0) (σ.2.1 10 g o)) (rfl) (by first | exact gw_a W o | exact gw_b W o | exact gw_c W o) (fun h R hs5 => ?_)
        refine gx_return dX5_workOut_196 ?_
        have e1 : sc_ua σ g o = σ.2.1 19 (σ.1 13 o 0) 0 := by rw [sc_ua, if_pos ha]
        have e2 : sc_ub σ g o = σ.2.1 19 (σ.1 14 o 0) 0 := by rw [sc_ub, if_pos hb]
        exact ⟨rfl, by rw [sc_wo, e1, e2]; simp only [sc_wt2]; rw [if_pos hb, if_pos ha, if_pos hn]; exact R, rfl⟩
theorem gw_pv {σ : gs_T} (W : gw_W σ) {g o : Nat} (hp : σ.1 6 g o = 1) : gw_W (sc_pv σ g o) := by
  unfold sc_pv
  split
  · exact W
  · split
    · rename_i h0 _
      obtain ⟨x, hx⟩ : ∃ x, σ.1 7 g o = x + 1 := ⟨σ.1 7 g o - 1, by omega⟩
      rw [hx]
      exact gw_pm W (gw_ot W hp hx)
    · exact W
theorem sc_pv_f {σ : gs_T} {g o t : Nat} (ht : sc_pf t = false) : (sc_pv σ g o).1 t = σ.1 t := by
  unfold sc_pv
  split
  · rfl
  · split
    · exact sc_pm_f ht
    · rfl
theorem sc_pv_i {σ : gs_T} {g o t : Nat} (ht : t ≠ 16 ∧ t ≠ 17 ∧ t ≠ 18) (h12 : t ≠ 12) : (sc_pv σ g o).2.1 t = σ.2.1 t := by
  unfold sc_pv
  split
  · rfl
  · split
    · exact (gs_u_ne h12).trans (sc_pm_i ht)
    · rfl
theorem gw_n4f {σ : gs_T} (W : gw_W σ) {g v : Nat} (hv : v ≤ σ.1 3 g 0) : gw_W (gs_n σ 4 g 0 v) := by
  have E : ∀ t, t ≠ 4 → (gs_n σ 4 g 0 v).1 t = σ.1 t := fun t ht => gs_u_ne ht
  have e4 : ∀ x, (gs_n σ 4 g 0 v).1 4 x 0 = if x = g then v else σ.1 4 x 0 := fun x => by simp [gs_n, gs_u]
  obtain ⟨w1, w2, w3, w4, w5, w6, w7, w8, w9, w10, w11, w12, w13, w14⟩ := W
  refine ⟨by rw [E 0 (by decide), E 1 (by decide), E 2 (by decide)]; exact w1, by rw [E 0 (by decide), E 15 (by decide)]; exact w2, by rw [E 1 (by decide), E 11 (by decide)]; exact w3, by rw [E 2 (by decide), E 10 (by decide)]; exact w4, by rw [E 6 (by decide), E 8 (by decide), E 9 (by decide), E 10 (by decide)]; exact w5, by rw [E 6 (by decide), E 0 (by decide), E 1 (by decide)]; exact w6, by rw [E 6 (by decide), E 7 (by decide)]; exact w7, by rw [E 6 (by decide), E 5 (by decide)]; exact w8, by rw [E 0 (by decide), E 3 (by decide), E 5 (by decide)]; exact w9, by rw [E 3 (by decide)]; exact w10, ?_, by rw [E 12 (by decide)]; exact w12, by rw [E 13 (by decide)]; exact w13, by rw [E 14 (by decide)]; exact w14⟩
  intro x
  rw [e4, E 3 (by decide)]
  split
  · rename_i hx; rw [hx]; exact hv
  · exact w11 x
def sc_wa (g m k : Nat) (σ : gs_T) : gs_T := match m with
  | 0 => σ
  | m + 1 => if ¬ σ.1 7 g (σ.1 5 g k - 1) = 0 ∧ σ.2.1 13 g (σ.1 5 g k - 1) = 0 then sc_pv σ g (σ.1 5 g k - 1) else sc_wa g m (k + 1) (gs_n (sc_wo (sc_pv σ g (σ.1 5 g k - 1)) g (σ.1 5 g k - 1)) 4 g 0 (k + 1))
set_option maxHeartbeats 4000000 in
theorem cl_wa {S : gx_S} {A : gs_A} {g : Nat} : ∀ (m k : Nat) (σ : gs_T) (w3 : Option Value) (h : gx_H), k + m = σ.1 3 g 0 → gw_W σ → g < σ.1 0 0 0 → gs_R h σ A → gx_Ev S gm_X5_workOutAll 5 5 [some (.ref (A 5 0 0)), some (.ref (A 1 g 0)), some (.int (nI k)), w3] [] h (fun r h' => gx_rt none r ∧ gs_R h' (sc_wa g m k σ) A ∧ r = none) := by
  intro m
  induction m with
  | zero =>
    intro k σ w3 h hk W hgn R
    have hg := gw_g W hgn
    have h40 := gw_tc W g
    refine gx_iload_n dX5_workOutAll_5 rfl ?_
    refine gx_aload_n dX5_workOutAll_6 rfl ?_
    refine gx_get dX5_workOutAll_7 gf_X5_134 (gs_g1 R hg) (v := .int (nI (σ.1 3 g 0))) (rfl) ?_
    refine gx_icmp_ge dX5_workOutAll_10 (tgt := 58) (by decide) (fun hc1 => ?_) (fun hc1 => absurd hc1 (fun z => z (by rw [← hk]; exact nI_le (Nat.le_refl _) (by omega))))
    refine gx_return dX5_workOutAll_58 ?_
    exact ⟨rfl, R, rfl⟩
  | succ m ih =>
    intro k σ w3 h hk W hgn R
    have hg := gw_g W hgn
    have h40 := gw_tc W g
    obtain ⟨o, he⟩ := gw_tn W hgn (show k < σ.1 3 g 0 by omega)
    have hp := gw_tp W he
    have heo : σ.1 5 g k - 1 = o := by omega
    rcases gs_zs (σ.1 7 g o) with hot | ⟨g9, hot⟩
    · refine gx_iload_n dX5_workOutAll_5 rfl ?_
      refine gx_aload_n dX5_workOutAll_6 rfl ?_
      refine gx_get dX5_workOutAll_7 gf_X5_134 (gs_g1 R hg) (v := .int (nI (σ.1 3 g 0))) (rfl) ?_
      refine gx_icmp_ge dX5_workOutAll_10 (tgt := 58) (by decide) (fun hc1 => absurd hc1 (nI_ge (by omega) (by omega))) (fun hc1 => ?_)
      refine gx_aload_n dX5_workOutAll_13 rfl ?_
      refine gx_get dX5_workOutAll_14 gf_X5_137 (gs_g1 R hg) (v := .ref (A 14 g 0)) (rfl) ?_
      refine gx_iload_n dX5_workOutAll_17 rfl ?_
      refine gr_14 dX5_workOutAll_18 R hg (q := k) (o := o) rfl (by omega) (by decide) he ?_
      refine gx_astore_n dX5_workOutAll_19 (by decide) rfl (L' := [some (.ref (A 5 0 0)), some (.ref (A 1 g 0)), some (.int (nI k)), some (.ref (A 4 g o))]) rfl ?_
      refine gx_aload_n dX5_workOutAll_20 rfl ?_
      refine gx_aload_n dX5_workOutAll_21 rfl ?_
      refine gx_invV dX5_workOutAll_22 wm_X5_256 gt_X5_putValues wy_X5_putValues wl_X5_putValues (ci := 5) rfl rfl (gs_g5 R ) (As := [.ref (A 4 g o)]) (rest := []) rfl rfl (Nat.le_of_ble_eq_true rfl) (by decide) (cc_X5_putValues R W hp) (fun r1 h q1 => ?_)
      obtain ⟨R, rfl⟩ := q1
      show gx_Ev _ _ _ _ _ [] _ _
      have W := gw_pv W hp
      have hp : (sc_pv σ g o).1 6 g o = 1 := by rw [sc_pv_f (by decide)]; exact hp
      have hg : (sc_pv σ g o).1 15 g 0 = 1 := by rw [sc_pv_f (by decide)]; exact hg
      refine gx_aload_n dX5_workOutAll_25 rfl ?_
      refine gx_get dX5_workOutAll_26 gf_X5_220 (gs_g4 R hp) (v := .null) (by show some (va_rf (gs_op ((sc_pv σ g o).1 7 _ _) _)) = _; rw [sc_pv_f (by decide), hot]; rfl) ?_
      refine gx_ifnullN dX5_workOutAll_29 (tgt := 40) (by decide) ?_
      refine gx_aload_n dX5_workOutAll_40 rfl ?_
      refine gx_aload_n dX5_workOutAll_41 rfl ?_
      refine gx_invV dX5_workOutAll_42 wm_X5_259 gt_X5_workOut wy_X5_workOut wl_X5_workOut (ci := 5) rfl rfl (gs_g5 R ) (As := [.ref (A 4 g o)]) (rest := []) rfl rfl (Nat.le_of_ble_eq_true rfl) (by decide) (cc_X5_workOut R W hp) (fun r1 h q1 => ?_)
      obtain ⟨R, rfl⟩ := q1
      show gx_Ev _ _ _ _ _ [] _ _
      have e1 := sc_wo_1 (sc_pv σ g o) g o
      have W := gw_of e1 W
      have hg : (sc_wo (sc_pv σ g o) g o).1 15 g 0 = 1 := by rw [e1]; exact hg
      refine gx_aload_n dX5_workOutAll_45 rfl ?_
      refine gx_iload_n dX5_workOutAll_46 rfl ?_
      refine gx_iconst dX5_workOutAll_47 (v := 1) (by decide) ?_
      refine gx_iadd dX5_workOutAll_48 ?_
      rw [show ((nI k) + 1 : Int32) = nI (k + 1) from nI_1 _]
      refine gp_N4 (σ := (sc_wo (sc_pv σ g o) g o)) hg dX5_workOutAll_49 gf_X5_253 R (rfl) (v := k + 1) (fun h R hs0 => ?_)
      refine gx_iinc dX5_workOutAll_52 rfl (v := nI (k + 1)) (nI_1 _) (by decide) rfl (L' := [some (.ref (A 5 0 0)), some (.ref (A 1 g 0)), some (.int (nI (k + 1))), some (.ref (A 4 g o))]) rfl ?_
      refine gx_goto dX5_workOutAll_55 (tgt := 5) (by decide) ?_
      have hc : ¬ (¬ σ.1 7 g o = 0 ∧ σ.2.1 13 g o = 0) := fun z => z.1 hot
      rw [sc_wa, heo, if_neg hc]
      refine ih (k + 1) _ _ _ ?_ (gw_n4f W (by rw [e1, sc_pv_f (by decide)]; omega)) ?_ R
      · show k + 1 + m = (sc_wo (sc_pv σ g o) g o).1 3 g 0
        rw [e1, sc_pv_f (by decide)]; omega
      · show g < (sc_wo (sc_pv σ g o) g o).1 0 0 0
        rw [e1, sc_pv_f (by decide)]; exact hgn
    · refine gx_iload_n dX5_workOutAll_5 rfl ?_
      refine gx_aload_n dX5_workOutAll_6 rfl ?_
      refine gx_get dX5_workOutAll_7 gf_X5_134 (gs_g1 R hg) (v := .int (nI (σ.1 3 g 0))) (rfl) ?_
      refine gx_icmp_ge dX5_workOutAll_10 (tgt := 58) (by decide) (fun hc1 => absurd hc1 (nI_ge (by omega) (by omega))) (fun hc1 => ?_)
      refine gx_aload_n dX5_workOutAll_13 rfl ?_
      refine gx_get dX5_workOutAll_14 gf_X5_137 (gs_g1 R hg) (v := .ref (A 14 g 0)) (rfl) ?_
      refine gx_iload_n dX5_workOutAll_17 rfl ?_
      refine gr_14 dX5_workOutAll_18 R hg (q := k) (o := o) rfl (by omega) (by decide) he ?_
      refine gx_astore_n dX5_workOutAll_19 (by decide) rfl (L' := [some (.ref (A 5 0 0)), some (.ref (A 1 g 0)), some (.int (nI k)), some (.ref (A 4 g o))]) rfl ?_
      refine gx_aload_n dX5_workOutAll_20 rfl ?_
      refine gx_aload_n dX5_workOutAll_21 rfl ?_
      refine gx_invV dX5_workOutAll_22 wm_X5_256 gt_X5_putValues wy_X5_putValues wl_X5_putValues (ci := 5) rfl rfl (gs_g5 R ) (As := [.ref (A 4 g o)]) (rest := []) rfl rfl (Nat.le_of_ble_eq_true rfl) (by decide) (cc_X5_putValues R W hp) (fun r1 h q1 => ?_)
      obtain ⟨R, rfl⟩ := q1
      show gx_Ev _ _ _ _ _ [] _ _
      have W := gw_pv W hp
      have hp : (sc_pv σ g o).1 6 g o = 1 := by rw [sc_pv_f (by decide)]; exact hp
      have hg : (sc_pv σ g o).1 15 g 0 = 1 := by rw [sc_pv_f (by decide)]; exact hg
      refine gx_aload_n dX5_workOutAll_25 rfl ?_
      refine gx_get dX5_workOutAll_26 gf_X5_220 (gs_g4 R hp) (v := .ref (A 4 g9 o)) (by show some (va_rf (gs_op ((sc_pv σ g o).1 7 _ _) _)) = _; rw [sc_pv_f (by decide), hot]; rfl) ?_
      refine gx_ifnull dX5_workOutAll_29 ?_
      refine gx_aload_n dX5_workOutAll_32 rfl ?_
      refine gx_get dX5_workOutAll_33 gf_X5_246 (gs_g4 R hp) (v := .int ((sc_pv σ g o).2.1 13 g o)) (rfl) ?_
      refine gx_if_ne dX5_workOutAll_36 (tgt := 40) (by decide) (fun k1 => ?_) (fun k1 => ?_)
      · refine gx_aload_n dX5_workOutAll_40 rfl ?_
        refine gx_aload_n dX5_workOutAll_41 rfl ?_
        refine gx_invV dX5_workOutAll_42 wm_X5_259 gt_X5_workOut wy_X5_workOut wl_X5_workOut (ci := 5) rfl rfl (gs_g5 R ) (As := [.ref (A 4 g o)]) (rest := []) rfl rfl (Nat.le_of_ble_eq_true rfl) (by decide) (cc_X5_workOut R W hp) (fun r1 h q1 => ?_)
        obtain ⟨R, rfl⟩ := q1
        show gx_Ev _ _ _ _ _ [] _ _
        have e1 := sc_wo_1 (sc_pv σ g o) g o
        have W := gw_of e1 W
        have hg : (sc_wo (sc_pv σ g o) g o).1 15 g 0 = 1 := by rw [e1]; exact hg
        refine gx_aload_n dX5_workOutAll_45 rfl ?_
        refine gx_iload_n dX5_workOutAll_46 rfl ?_
        refine gx_iconst dX5_workOutAll_47 (v := 1) (by decide) ?_
        refine gx_iadd dX5_workOutAll_48 ?_
        rw [show ((nI k) + 1 : Int32) = nI (k + 1) from nI_1 _]
        refine gp_N4 (σ := (sc_wo (sc_pv σ g o) g o)) hg dX5_workOutAll_49 gf_X5_253 R (rfl) (v := k + 1) (fun h R hs0 => ?_)
        refine gx_iinc dX5_workOutAll_52 rfl (v := nI (k + 1)) (nI_1 _) (by decide) rfl (L' := [some (.ref (A 5 0 0)), some (.ref (A 1 g 0)), some (.int (nI (k + 1))), some (.ref (A 4 g o))]) rfl ?_
        refine gx_goto dX5_workOutAll_55 (tgt := 5) (by decide) ?_
        have hc : ¬ (¬ σ.1 7 g o = 0 ∧ σ.2.1 13 g o = 0) := fun z => k1 (by rw [sc_pv_i (by decide) (by decide)]; exact z.2)
        rw [sc_wa, heo, if_neg hc]
        refine ih (k + 1) _ _ _ ?_ (gw_n4f W (by rw [e1, sc_pv_f (by decide)]; omega)) ?_ R
        · show k + 1 + m = (sc_wo (sc_pv σ g o) g o).1 3 g 0
          rw [e1, sc_pv_f (by decide)]; omega
        · show g < (sc_wo (sc_pv σ g o) g o).1 0 0 0
          rw [e1, sc_pv_f (by decide)]; exact hgn
      · refine gx_return dX5_workOutAll_39 ?_
        have hc : ¬ σ.1 7 g o = 0 ∧ σ.2.1 13 g o = 0 := ⟨by omega, by rw [← sc_pv_i (σ := σ) (g := g) (o := o) (t := 13) (by decide) (by decide)]; exact k1⟩
        exact ⟨rfl, by rw [sc_wa, heo, if_pos hc]; exact R, rfl⟩
set_option maxHeartbeats 4000000 in
theorem cc_X5_workOutAll {S : gx_S} {h : gx_H} {σ : gs_T} {A : gs_A} (R : gs_R h σ A) (W : gw_W σ) {g : Nat} (hgn : g < σ.1 0 0 0) : gx_Cn S gm_X5_workOutAll 5 [.ref (A 5 0 0), .ref (A 1 g 0)] h (fun r h' => gs_R h' (sc_wa g (σ.1 3 g 0 - σ.1 4 g 0) (σ.1 4 g 0) σ) A ∧ r = none) := by
  refine gx_Cn.of gt_X5_workOutAll (by simp [Value.category]) (Nat.le_of_ble_eq_true rfl) ?_
  show gx_Ev S gm_X5_workOutAll 5 0 [some (.ref (A 5 0 0)), some (.ref (A 1 g 0)), none, none] [] h _
  have hg := gw_g W hgn
  refine gx_aload_n dX5_workOutAll_0 rfl ?_
  refine gx_get dX5_workOutAll_1 gf_X5_253 (gs_g1 R hg) (v := .int (nI (σ.1 4 g 0))) (rfl) ?_
  refine gx_istore_n dX5_workOutAll_4 (by decide) rfl (L' := [some (.ref (A 5 0 0)), some (.ref (A 1 g 0)), some (.int (nI (σ.1 4 g 0))), none]) rfl ?_
  exact cl_wa (σ.1 3 g 0 - σ.1 4 g 0) (σ.1 4 g 0) σ _ _ (by have := gw_wc W g; omega) W hgn R
