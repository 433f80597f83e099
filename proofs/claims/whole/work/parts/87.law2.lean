/-! the law: its calls that change something -/
set_option maxHeartbeats 4000000 in
theorem cl_law_send {S : gx_S} {h : gx_H} {σ : gs_T} {A : gs_A} {Q : Option Value → gx_H → Prop} {IV : Nat → gs_T → Prop} {k : Nat} (HH : gl_H IV) (R : gs_R h σ A) (J : IV k σ) (hN : S.2.2.1 ≤ 3073) (hk : 6 * k + 7 ≤ S.2.2.1) (K : ∀ (h : gx_H) (σ : gs_T) (A : gs_A), gs_R h σ A → IV (k + 1) σ → gx_Ev S gm_L_law 9 547 [some (.ref S.2.1), some (.ref (A 5 0 0)), some (.ref (A 6 0 0)), some (.int (nI (6 * k + 1)))] [] h Q) : gx_Ev S gm_L_law 9 116 [some (.ref S.2.1), some (.ref (A 5 0 0)), some (.ref (A 6 0 0)), some (.int (nI (6 * k + 1)))] [] h Q := by
  obtain ⟨W, V, hm, hh, hF, J1⟩ := HH.1 k σ (by omega) J
  obtain ⟨e1, e2, e3, e4, E⟩ := HH.2.2.1 k σ (by omega) J (S.2.2.2 (6 * k + 1 + 1)) (S.2.2.2 (6 * k + 1 + 2)) (S.2.2.2 (6 * k + 1 + 3)) (S.2.2.2 (6 * k + 1 + 4)) (S.2.2.2 (6 * k + 1 + 5))
  refine gx_aload_n dL_law_116 rfl ?_
  refine gx_aload_n dL_law_117 rfl ?_
  refine gx_iload_n dL_law_118 rfl ?_
  refine gx_iconst dL_law_119 (v := 1) (by decide) ?_
  refine gx_iadd dL_law_120 ?_
  rw [show ((nI (6 * k + 1)) + 1 : Int32) = nI (6 * k + 1 + 1) from nI_1 _]
  refine gx_sld dL_law_121 (i := nI (6 * k + 1 + 1)) (x := S.2.2.2 (6 * k + 1 + 1)) (vp_in_nI (by omega) (by omega)) (by rw [nI_clamp (by omega)]) ?_
  refine gx_aload_n dL_law_122 rfl ?_
  refine gx_iload_n dL_law_123 rfl ?_
  refine gx_iconst dL_law_124 (v := 2) (by decide) ?_
  refine gx_iadd dL_law_125 ?_
  rw [show ((nI (6 * k + 1)) + 2 : Int32) = nI (6 * k + 1 + 2) from nI_add _ 2]
  refine gx_sld dL_law_126 (i := nI (6 * k + 1 + 2)) (x := S.2.2.2 (6 * k + 1 + 2)) (vp_in_nI (by omega) (by omega)) (by rw [nI_clamp (by omega)]) ?_
  refine gx_aload_n dL_law_127 rfl ?_
  refine gx_iload_n dL_law_128 rfl ?_
  refine gx_iconst dL_law_129 (v := 3) (by decide) ?_
  refine gx_iadd dL_law_130 ?_
  rw [show ((nI (6 * k + 1)) + 3 : Int32) = nI (6 * k + 1 + 3) from nI_add _ 3]
  refine gx_sld dL_law_131 (i := nI (6 * k + 1 + 3)) (x := S.2.2.2 (6 * k + 1 + 3)) (vp_in_nI (by omega) (by omega)) (by rw [nI_clamp (by omega)]) ?_
  refine gx_aload_n dL_law_132 rfl ?_
  refine gx_iload_n dL_law_133 rfl ?_
  refine gx_iconst dL_law_134 (v := 4) (by decide) ?_
  refine gx_iadd dL_law_135 ?_
  rw [show ((nI (6 * k + 1)) + 4 : Int32) = nI (6 * k + 1 + 4) from nI_add _ 4]
  refine gx_sld dL_law_136 (i := nI (6 * k + 1 + 4)) (x := S.2.2.2 (6 * k + 1 + 4)) (vp_in_nI (by omega) (by omega)) (by rw [nI_clamp (by omega)]) ?_
  refine gx_aload_n dL_law_137 rfl ?_
  refine gx_iload_n dL_law_138 rfl ?_
  refine gx_iconst dL_law_139 (v := 5) (by decide) ?_
  refine gx_iadd dL_law_140 ?_
  rw [show ((nI (6 * k + 1)) + 5 : Int32) = nI (6 * k + 1 + 5) from nI_add _ 5]
  refine gx_sld dL_law_141 (i := nI (6 * k + 1 + 5)) (x := S.2.2.2 (6 * k + 1 + 5)) (vp_in_nI (by omega) (by omega)) (by rw [nI_clamp (by omega)]) ?_
  refine gx_invV dL_law_142 wm_L_21 gt_X5_send wy_X5_send wl_X5_send (ci := 5) rfl rfl (gs_g5 R ) (As := [.int (S.2.2.2 (6 * k + 1 + 1)), .int (S.2.2.2 (6 * k + 1 + 2)), .int (S.2.2.2 (6 * k + 1 + 3)), .int (S.2.2.2 (6 * k + 1 + 4)), .int (S.2.2.2 (6 * k + 1 + 5))]) (rest := []) rfl rfl (Nat.le_of_ble_eq_true rfl) (by decide) (cc_X5_send R W (S.2.2.2 (6 * k + 1 + 1)) (S.2.2.2 (6 * k + 1 + 2)) (S.2.2.2 (6 * k + 1 + 3)) (S.2.2.2 (6 * k + 1 + 4)) (S.2.2.2 (6 * k + 1 + 5)) hh) (fun r1 h q1 => ?_)
  obtain ⟨A1, R, hA, rfl⟩ := q1
  rw [← hA 5 (by decide) (by decide), ← hA 6 (by decide) (by decide)]
  revert R
  generalize A1 = A
  intro R
  show gx_Ev _ _ _ _ _ [.int (sc_sendr σ (S.2.2.2 (6 * k + 1 + 1)) (S.2.2.2 (6 * k + 1 + 2)) (S.2.2.2 (6 * k + 1 + 3)) (S.2.2.2 (6 * k + 1 + 4)) (S.2.2.2 (6 * k + 1 + 5)))] _ _
  refine gx_aload_n dL_law_145 rfl ?_
  refine gx_aload_n dL_law_146 rfl ?_
  refine gx_iload_n dL_law_147 rfl ?_
  refine gx_iconst dL_law_148 (v := 1) (by decide) ?_
  refine gx_iadd dL_law_149 ?_
  rw [show ((nI (6 * k + 1)) + 1 : Int32) = nI (6 * k + 1 + 1) from nI_1 _]
  refine gx_sld dL_law_150 (i := nI (6 * k + 1 + 1)) (x := S.2.2.2 (6 * k + 1 + 1)) (vp_in_nI (by omega) (by omega)) (by rw [nI_clamp (by omega)]) ?_
  refine gx_aload_n dL_law_151 rfl ?_
  refine gx_iload_n dL_law_152 rfl ?_
  refine gx_iconst dL_law_153 (v := 2) (by decide) ?_
  refine gx_iadd dL_law_154 ?_
  rw [show ((nI (6 * k + 1)) + 2 : Int32) = nI (6 * k + 1 + 2) from nI_add _ 2]
  refine gx_sld dL_law_155 (i := nI (6 * k + 1 + 2)) (x := S.2.2.2 (6 * k + 1 + 2)) (vp_in_nI (by omega) (by omega)) (by rw [nI_clamp (by omega)]) ?_
  refine gx_aload_n dL_law_156 rfl ?_
  refine gx_iload_n dL_law_157 rfl ?_
  refine gx_iconst dL_law_158 (v := 3) (by decide) ?_
  refine gx_iadd dL_law_159 ?_
  rw [show ((nI (6 * k + 1)) + 3 : Int32) = nI (6 * k + 1 + 3) from nI_add _ 3]
  refine gx_sld dL_law_160 (i := nI (6 * k + 1 + 3)) (x := S.2.2.2 (6 * k + 1 + 3)) (vp_in_nI (by omega) (by omega)) (by rw [nI_clamp (by omega)]) ?_
  refine gx_aload_n dL_law_161 rfl ?_
  refine gx_iload_n dL_law_162 rfl ?_
  refine gx_iconst dL_law_163 (v := 4) (by decide) ?_
  refine gx_iadd dL_law_164 ?_
  rw [show ((nI (6 * k + 1)) + 4 : Int32) = nI (6 * k + 1 + 4) from nI_add _ 4]
  refine gx_sld dL_law_165 (i := nI (6 * k + 1 + 4)) (x := S.2.2.2 (6 * k + 1 + 4)) (vp_in_nI (by omega) (by omega)) (by rw [nI_clamp (by omega)]) ?_
  refine gx_aload_n dL_law_166 rfl ?_
  refine gx_iload_n dL_law_167 rfl ?_
  refine gx_iconst dL_law_168 (v := 5) (by decide) ?_
  refine gx_iadd dL_law_169 ?_
  rw [show ((nI (6 * k + 1)) + 5 : Int32) = nI (6 * k + 1 + 5) from nI_add _ 5]
  refine gx_sld dL_law_170 (i := nI (6 * k + 1 + 5)) (x := S.2.2.2 (6 * k + 1 + 5)) (vp_in_nI (by omega) (by omega)) (by rw [nI_clamp (by omega)]) ?_
  refine gx_invV dL_law_171 wm_L_25 gt_X6_send wy_X6_send wl_X6_send (ci := 6) rfl rfl (gs_g6 R e2) (As := [.int (S.2.2.2 (6 * k + 1 + 1)), .int (S.2.2.2 (6 * k + 1 + 2)), .int (S.2.2.2 (6 * k + 1 + 3)), .int (S.2.2.2 (6 * k + 1 + 4)), .int (S.2.2.2 (6 * k + 1 + 5))]) (rest := [.int (sc_sendr σ (S.2.2.2 (6 * k + 1 + 1)) (S.2.2.2 (6 * k + 1 + 2)) (S.2.2.2 (6 * k + 1 + 3)) (S.2.2.2 (6 * k + 1 + 4)) (S.2.2.2 (6 * k + 1 + 5)))]) rfl rfl (Nat.le_of_ble_eq_true rfl) (by decide) (cc_X6_send R e2 e1 (S.2.2.2 (6 * k + 1 + 1)) (S.2.2.2 (6 * k + 1 + 2)) (S.2.2.2 (6 * k + 1 + 3)) (S.2.2.2 (6 * k + 1 + 4)) (S.2.2.2 (6 * k + 1 + 5)) e3) (fun r1 h q1 => ?_)
  obtain ⟨R, hs, rfl⟩ := q1
  show gx_Ev _ _ _ _ _ [.int (sm_sendr (sc_send σ (S.2.2.2 (6 * k + 1 + 1)) (S.2.2.2 (6 * k + 1 + 2)) (S.2.2.2 (6 * k + 1 + 3)) (S.2.2.2 (6 * k + 1 + 4)) (S.2.2.2 (6 * k + 1 + 5))) (S.2.2.2 (6 * k + 1 + 1)) (S.2.2.2 (6 * k + 1 + 2)) (S.2.2.2 (6 * k + 1 + 3)) (S.2.2.2 (6 * k + 1 + 4)) (S.2.2.2 (6 * k + 1 + 5))), .int (sc_sendr σ (S.2.2.2 (6 * k + 1 + 1)) (S.2.2.2 (6 * k + 1 + 2)) (S.2.2.2 (6 * k + 1 + 3)) (S.2.2.2 (6 * k + 1 + 4)) (S.2.2.2 (6 * k + 1 + 5)))] _ _
  refine gx_icmp_eq dL_law_174 (tgt := 547) (by decide) (fun hcc => ?_) (fun hcc => absurd hcc (fun z => z e4))
  exact K _ _ _ R E
set_option maxHeartbeats 4000000 in
theorem cl_law_bring {S : gx_S} {h : gx_H} {σ : gs_T} {A : gs_A} {Q : Option Value → gx_H → Prop} {IV : Nat → gs_T → Prop} {k : Nat} (HH : gl_H IV) (R : gs_R h σ A) (J : IV k σ) (hN : S.2.2.1 ≤ 3073) (hk : 6 * k + 7 ≤ S.2.2.1) (K : ∀ (h : gx_H) (σ : gs_T) (A : gs_A), gs_R h σ A → IV (k + 1) σ → gx_Ev S gm_L_law 9 547 [some (.ref S.2.1), some (.ref (A 5 0 0)), some (.ref (A 6 0 0)), some (.int (nI (6 * k + 1)))] [] h Q) : gx_Ev S gm_L_law 9 179 [some (.ref S.2.1), some (.ref (A 5 0 0)), some (.ref (A 6 0 0)), some (.int (nI (6 * k + 1)))] [] h Q := by
  obtain ⟨W, V, hm, hh, hF, J1⟩ := HH.1 k σ (by omega) J
  obtain ⟨q, n, e0, e1, e2, e3, e4, e5, E⟩ := HH.2.2.2.1 k σ (by omega) J (S.2.2.2 (6 * k + 1 + 1))
  refine gx_aload_n dL_law_179 rfl ?_
  refine gx_aload_n dL_law_180 rfl ?_
  refine gx_iload_n dL_law_181 rfl ?_
  refine gx_iconst dL_law_182 (v := 1) (by decide) ?_
  refine gx_iadd dL_law_183 ?_
  rw [show ((nI (6 * k + 1)) + 1 : Int32) = nI (6 * k + 1 + 1) from nI_1 _]
  refine gx_sld dL_law_184 (i := nI (6 * k + 1 + 1)) (x := S.2.2.2 (6 * k + 1 + 1)) (vp_in_nI (by omega) (by omega)) (by rw [nI_clamp (by omega)]) ?_
  refine gx_invV dL_law_185 wm_L_26 gt_X5_bring wy_X5_bring wl_X5_bring (ci := 5) rfl rfl (gs_g5 R ) (As := [.int (S.2.2.2 (6 * k + 1 + 1))]) (rest := []) rfl rfl (Nat.le_of_ble_eq_true rfl) (by decide) (cc_X5_bring R W (S.2.2.2 (6 * k + 1 + 1))) (fun r1 h q1 => ?_)
  obtain ⟨R, rfl⟩ := q1
  show gx_Ev _ _ _ _ _ [.int (sc_delr σ (S.2.2.2 (6 * k + 1 + 1)) 0)] _ _
  refine gx_aload_n dL_law_188 rfl ?_
  refine gx_aload_n dL_law_189 rfl ?_
  refine gx_iload_n dL_law_190 rfl ?_
  refine gx_iconst dL_law_191 (v := 1) (by decide) ?_
  refine gx_iadd dL_law_192 ?_
  rw [show ((nI (6 * k + 1)) + 1 : Int32) = nI (6 * k + 1 + 1) from nI_1 _]
  refine gx_sld dL_law_193 (i := nI (6 * k + 1 + 1)) (x := S.2.2.2 (6 * k + 1 + 1)) (vp_in_nI (by omega) (by omega)) (by rw [nI_clamp (by omega)]) ?_
  refine gx_invV dL_law_194 wm_L_30 gt_X6_bring wy_X6_bring wl_X6_bring (ci := 6) rfl rfl (gs_g6 R e2) (As := [.int (S.2.2.2 (6 * k + 1 + 1))]) (rest := [.int (sc_delr σ (S.2.2.2 (6 * k + 1 + 1)) 0)]) rfl rfl (Nat.le_of_ble_eq_true rfl) (by decide) (cc_X6_bring R e2 e1 (S.2.2.2 (6 * k + 1 + 1)) e0 e3 e4) (fun r1 h q1 => ?_)
  obtain ⟨R, hs, rfl⟩ := q1
  show gx_Ev _ _ _ _ _ [.int (sm_bringr (sc_del σ (S.2.2.2 (6 * k + 1 + 1)) 0) (S.2.2.2 (6 * k + 1 + 1)) q n), .int (sc_delr σ (S.2.2.2 (6 * k + 1 + 1)) 0)] _ _
  refine gx_icmp_eq dL_law_197 (tgt := 547) (by decide) (fun hcc => ?_) (fun hcc => absurd hcc (fun z => z e5))
  exact K _ _ _ R E
set_option maxHeartbeats 4000000 in
theorem cl_law_twice {S : gx_S} {h : gx_H} {σ : gs_T} {A : gs_A} {Q : Option Value → gx_H → Prop} {IV : Nat → gs_T → Prop} {k : Nat} (HH : gl_H IV) (R : gs_R h σ A) (J : IV k σ) (hN : S.2.2.1 ≤ 3073) (hk : 6 * k + 7 ≤ S.2.2.1) (K : ∀ (h : gx_H) (σ : gs_T) (A : gs_A), gs_R h σ A → IV (k + 1) σ → gx_Ev S gm_L_law 9 547 [some (.ref S.2.1), some (.ref (A 5 0 0)), some (.ref (A 6 0 0)), some (.int (nI (6 * k + 1)))] [] h Q) : gx_Ev S gm_L_law 9 202 [some (.ref S.2.1), some (.ref (A 5 0 0)), some (.ref (A 6 0 0)), some (.int (nI (6 * k + 1)))] [] h Q := by
  obtain ⟨W, V, hm, hh, hF, J1⟩ := HH.1 k σ (by omega) J
  obtain ⟨q, n, e0, e1, e2, e3, e4, e5, E⟩ := HH.2.2.2.2.1 k σ (by omega) J (S.2.2.2 (6 * k + 1 + 1))
  refine gx_aload_n dL_law_202 rfl ?_
  refine gx_aload_n dL_law_203 rfl ?_
  refine gx_iload_n dL_law_204 rfl ?_
  refine gx_iconst dL_law_205 (v := 1) (by decide) ?_
  refine gx_iadd dL_law_206 ?_
  rw [show ((nI (6 * k + 1)) + 1 : Int32) = nI (6 * k + 1 + 1) from nI_1 _]
  refine gx_sld dL_law_207 (i := nI (6 * k + 1 + 1)) (x := S.2.2.2 (6 * k + 1 + 1)) (vp_in_nI (by omega) (by omega)) (by rw [nI_clamp (by omega)]) ?_
  refine gx_invV dL_law_208 wm_L_31 gt_X5_twice wy_X5_twice wl_X5_twice (ci := 5) rfl rfl (gs_g5 R ) (As := [.int (S.2.2.2 (6 * k + 1 + 1))]) (rest := []) rfl rfl (Nat.le_of_ble_eq_true rfl) (by decide) (cc_X5_twice R W (S.2.2.2 (6 * k + 1 + 1))) (fun r1 h q1 => ?_)
  obtain ⟨R, rfl⟩ := q1
  show gx_Ev _ _ _ _ _ [.int (sc_delr σ (S.2.2.2 (6 * k + 1 + 1)) 1)] _ _
  refine gx_aload_n dL_law_211 rfl ?_
  refine gx_aload_n dL_law_212 rfl ?_
  refine gx_iload_n dL_law_213 rfl ?_
  refine gx_iconst dL_law_214 (v := 1) (by decide) ?_
  refine gx_iadd dL_law_215 ?_
  rw [show ((nI (6 * k + 1)) + 1 : Int32) = nI (6 * k + 1 + 1) from nI_1 _]
  refine gx_sld dL_law_216 (i := nI (6 * k + 1 + 1)) (x := S.2.2.2 (6 * k + 1 + 1)) (vp_in_nI (by omega) (by omega)) (by rw [nI_clamp (by omega)]) ?_
  refine gx_invV dL_law_217 wm_L_34 gt_X6_twice wy_X6_twice wl_X6_twice (ci := 6) rfl rfl (gs_g6 R e2) (As := [.int (S.2.2.2 (6 * k + 1 + 1))]) (rest := [.int (sc_delr σ (S.2.2.2 (6 * k + 1 + 1)) 1)]) rfl rfl (Nat.le_of_ble_eq_true rfl) (by decide) (cc_X6_twice R e2 e1 (S.2.2.2 (6 * k + 1 + 1)) e0 e3 e4) (fun r1 h q1 => ?_)
  obtain ⟨R, hs, rfl⟩ := q1
  show gx_Ev _ _ _ _ _ [.int (sm_twicer (sc_del σ (S.2.2.2 (6 * k + 1 + 1)) 1) (S.2.2.2 (6 * k + 1 + 1)) q n), .int (sc_delr σ (S.2.2.2 (6 * k + 1 + 1)) 1)] _ _
  refine gx_icmp_eq dL_law_220 (tgt := 547) (by decide) (fun hcc => ?_) (fun hcc => absurd hcc (fun z => z e5))
  exact K _ _ _ R E
set_option maxHeartbeats 4000000 in
theorem cl_law_agree {S : gx_S} {h : gx_H} {σ : gs_T} {A : gs_A} {Q : Option Value → gx_H → Prop} {IV : Nat → gs_T → Prop} {k : Nat} (HH : gl_H IV) (R : gs_R h σ A) (J : IV k σ) (hN : S.2.2.1 ≤ 3073) (hk : 6 * k + 7 ≤ S.2.2.1) (K : ∀ (h : gx_H) (σ : gs_T) (A : gs_A), gs_R h σ A → IV (k + 1) σ → gx_Ev S gm_L_law 9 547 [some (.ref S.2.1), some (.ref (A 5 0 0)), some (.ref (A 6 0 0)), some (.int (nI (6 * k + 1)))] [] h Q) : gx_Ev S gm_L_law 9 511 [some (.ref S.2.1), some (.ref (A 5 0 0)), some (.ref (A 6 0 0)), some (.int (nI (6 * k + 1)))] [] h Q := by
  obtain ⟨W, V, hm, hh, hF, J1⟩ := HH.1 k σ (by omega) J
  obtain ⟨e1, e2, e3, E⟩ := HH.2.2.2.2.2.2 k σ (by omega) J
  refine gx_aload_n dL_law_511 rfl ?_
  refine gx_invV dL_law_512 wm_L_80 gt_X5_agree wy_X5_agree wl_X5_agree (ci := 5) rfl rfl (gs_g5 R ) (As := []) (rest := []) rfl rfl (Nat.le_of_ble_eq_true rfl) (by decide) (cc_X5_agree R W) (fun r1 h q1 => ?_)
  obtain ⟨R, rfl⟩ := q1
  show gx_Ev _ _ _ _ _ [.int (gs_bi (sc_agr σ))] _ _
  refine gx_aload_n dL_law_515 rfl ?_
  refine gx_invV dL_law_516 wm_L_84 gt_X6_agree wy_X6_agree wl_X6_agree (ci := 6) rfl rfl (gs_g6 R e2) (As := []) (rest := [.int (gs_bi (sc_agr σ))]) rfl rfl (Nat.le_of_ble_eq_true rfl) (by decide) (cc_X6_agree R e2 e1) (fun r1 h q1 => ?_)
  obtain ⟨rfl, rfl⟩ := q1
  show gx_Ev _ _ _ _ _ [.int (sm_ag (sc_ags σ) ((sc_ags σ).1 100 0 0) 0 1), .int (gs_bi (sc_agr σ))] _ _
  refine gx_icmp_eq dL_law_519 (tgt := 547) (by decide) (fun hcc => ?_) (fun hcc => absurd hcc (fun z => z e3))
  exact K _ _ _ R E
set_option maxHeartbeats 4000000 in
theorem cl_law_up {S : gx_S} {h : gx_H} {σ : gs_T} {A : gs_A} {Q : Option Value → gx_H → Prop} {IV : Nat → gs_T → Prop} {k : Nat} (HH : gl_H IV) (R : gs_R h σ A) (J : IV k σ) (hN : S.2.2.1 ≤ 3073) (hk : 6 * k + 7 ≤ S.2.2.1) (K : ∀ (h : gx_H) (σ : gs_T) (A : gs_A), gs_R h σ A → IV (k + 1) σ → gx_Ev S gm_L_law 9 547 [some (.ref S.2.1), some (.ref (A 5 0 0)), some (.ref (A 6 0 0)), some (.int (nI (6 * k + 1)))] [] h Q) : gx_Ev S gm_L_law 9 225 [some (.ref S.2.1), some (.ref (A 5 0 0)), some (.ref (A 6 0 0)), some (.int (nI (6 * k + 1)))] [] h Q := by
  obtain ⟨W, V, hm, hh, hF, J1⟩ := HH.1 k σ (by omega) J
  by_cases hb : (S.2.2.2 (6 * k + 1 + 2)) = 0
  · obtain ⟨e1, e2, e3, E⟩ := HH.2.2.2.2.2.1 k σ (by omega) J (S.2.2.2 (6 * k + 1 + 1)) 0 (by decide)
    refine gx_aload_n dL_law_225 rfl ?_
    refine gx_aload_n dL_law_226 rfl ?_
    refine gx_iload_n dL_law_227 rfl ?_
    refine gx_iconst dL_law_228 (v := 1) (by decide) ?_
    refine gx_iadd dL_law_229 ?_
    rw [show ((nI (6 * k + 1)) + 1 : Int32) = nI (6 * k + 1 + 1) from nI_1 _]
    refine gx_sld dL_law_230 (i := nI (6 * k + 1 + 1)) (x := S.2.2.2 (6 * k + 1 + 1)) (vp_in_nI (by omega) (by omega)) (by rw [nI_clamp (by omega)]) ?_
    refine gx_aload_n dL_law_231 rfl ?_
    refine gx_iload_n dL_law_232 rfl ?_
    refine gx_iconst dL_law_233 (v := 2) (by decide) ?_
    refine gx_iadd dL_law_234 ?_
    rw [show ((nI (6 * k + 1)) + 2 : Int32) = nI (6 * k + 1 + 2) from nI_add _ 2]
    refine gx_sld dL_law_235 (i := nI (6 * k + 1 + 2)) (x := S.2.2.2 (6 * k + 1 + 2)) (vp_in_nI (by omega) (by omega)) (by rw [nI_clamp (by omega)]) ?_
    refine gx_if_eq dL_law_236 (tgt := 243) (by decide) (fun hb1 => ?_) (fun hb1 => absurd hb1 (fun z => z hb))
    refine gx_iconst dL_law_243 (v := 0) (by decide) ?_
    refine gx_invV dL_law_244 wm_L_35 gt_X5_up wy_X5_up wl_X5_up (ci := 5) rfl rfl (gs_g5 R ) (As := [.int (S.2.2.2 (6 * k + 1 + 1)), .int 0]) (rest := []) rfl rfl (Nat.le_of_ble_eq_true rfl) (by decide) (cc_X5_up R W (S.2.2.2 (6 * k + 1 + 1)) 0 (by decide)) (fun r1 h q1 => ?_)
    obtain ⟨R, hs, rfl⟩ := q1
    show gx_Ev _ _ _ _ _ [.int (gs_bi (0 ≤ (S.2.2.2 (6 * k + 1 + 1)) ∧ (S.2.2.2 (6 * k + 1 + 1)) < nI (σ.1 0 0 0)))] _ _
    refine gx_aload_n dL_law_247 rfl ?_
    refine gx_aload_n dL_law_248 rfl ?_
    refine gx_iload_n dL_law_249 rfl ?_
    refine gx_iconst dL_law_250 (v := 1) (by decide) ?_
    refine gx_iadd dL_law_251 ?_
    rw [show ((nI (6 * k + 1)) + 1 : Int32) = nI (6 * k + 1 + 1) from nI_1 _]
    refine gx_sld dL_law_252 (i := nI (6 * k + 1 + 1)) (x := S.2.2.2 (6 * k + 1 + 1)) (vp_in_nI (by omega) (by omega)) (by rw [nI_clamp (by omega)]) ?_
    refine gx_aload_n dL_law_253 rfl ?_
    refine gx_iload_n dL_law_254 rfl ?_
    refine gx_iconst dL_law_255 (v := 2) (by decide) ?_
    refine gx_iadd dL_law_256 ?_
    rw [show ((nI (6 * k + 1)) + 2 : Int32) = nI (6 * k + 1 + 2) from nI_add _ 2]
    refine gx_sld dL_law_257 (i := nI (6 * k + 1 + 2)) (x := S.2.2.2 (6 * k + 1 + 2)) (vp_in_nI (by omega) (by omega)) (by rw [nI_clamp (by omega)]) ?_
    refine gx_if_eq dL_law_258 (tgt := 265) (by decide) (fun hb2 => ?_) (fun hb2 => absurd hb2 (fun z => z hb))
    refine gx_iconst dL_law_265 (v := 0) (by decide) ?_
    refine gx_invV dL_law_266 wm_L_39 gt_X6_up wy_X6_up wl_X6_up (ci := 6) rfl rfl (gs_g6 R e2) (As := [.int (S.2.2.2 (6 * k + 1 + 1)), .int 0]) (rest := [.int (gs_bi (0 ≤ (S.2.2.2 (6 * k + 1 + 1)) ∧ (S.2.2.2 (6 * k + 1 + 1)) < nI (σ.1 0 0 0)))]) rfl rfl (Nat.le_of_ble_eq_true rfl) (by decide) (cc_X6_up R e2 e1 (S.2.2.2 (6 * k + 1 + 1)) 0) (fun r1 h q1 => ?_)
    obtain ⟨R, hs2, rfl⟩ := q1
    show gx_Ev _ _ _ _ _ [.int (gs_bi (0 ≤ (S.2.2.2 (6 * k + 1 + 1)) ∧ (S.2.2.2 (6 * k + 1 + 1)) < nI ((sc_up σ (S.2.2.2 (6 * k + 1 + 1)) 0).1 100 0 0))), .int (gs_bi (0 ≤ (S.2.2.2 (6 * k + 1 + 1)) ∧ (S.2.2.2 (6 * k + 1 + 1)) < nI (σ.1 0 0 0)))] _ _
    refine gx_icmp_eq dL_law_269 (tgt := 547) (by decide) (fun hcc => ?_) (fun hcc => absurd hcc (fun z => z (by rw [e3])))
    exact K _ _ _ R E
  · obtain ⟨e1, e2, e3, E⟩ := HH.2.2.2.2.2.1 k σ (by omega) J (S.2.2.2 (6 * k + 1 + 1)) 1 (by decide)
    refine gx_aload_n dL_law_225 rfl ?_
    refine gx_aload_n dL_law_226 rfl ?_
    refine gx_iload_n dL_law_227 rfl ?_
    refine gx_iconst dL_law_228 (v := 1) (by decide) ?_
    refine gx_iadd dL_law_229 ?_
    rw [show ((nI (6 * k + 1)) + 1 : Int32) = nI (6 * k + 1 + 1) from nI_1 _]
    refine gx_sld dL_law_230 (i := nI (6 * k + 1 + 1)) (x := S.2.2.2 (6 * k + 1 + 1)) (vp_in_nI (by omega) (by omega)) (by rw [nI_clamp (by omega)]) ?_
    refine gx_aload_n dL_law_231 rfl ?_
    refine gx_iload_n dL_law_232 rfl ?_
    refine gx_iconst dL_law_233 (v := 2) (by decide) ?_
    refine gx_iadd dL_law_234 ?_
    rw [show ((nI (6 * k + 1)) + 2 : Int32) = nI (6 * k + 1 + 2) from nI_add _ 2]
    refine gx_sld dL_law_235 (i := nI (6 * k + 1 + 2)) (x := S.2.2.2 (6 * k + 1 + 2)) (vp_in_nI (by omega) (by omega)) (by rw [nI_clamp (by omega)]) ?_
    refine gx_if_eq dL_law_236 (tgt := 243) (by decide) (fun hb1 => absurd hb1 (hb)) (fun hb1 => ?_)
    refine gx_iconst dL_law_239 (v := 1) (by decide) ?_
    refine gx_goto dL_law_240 (tgt := 244) (by decide) ?_
    refine gx_invV dL_law_244 wm_L_35 gt_X5_up wy_X5_up wl_X5_up (ci := 5) rfl rfl (gs_g5 R ) (As := [.int (S.2.2.2 (6 * k + 1 + 1)), .int 1]) (rest := []) rfl rfl (Nat.le_of_ble_eq_true rfl) (by decide) (cc_X5_up R W (S.2.2.2 (6 * k + 1 + 1)) 1 (by decide)) (fun r1 h q1 => ?_)
    obtain ⟨R, hs, rfl⟩ := q1
    show gx_Ev _ _ _ _ _ [.int (gs_bi (0 ≤ (S.2.2.2 (6 * k + 1 + 1)) ∧ (S.2.2.2 (6 * k + 1 + 1)) < nI (σ.1 0 0 0)))] _ _
    refine gx_aload_n dL_law_247 rfl ?_
    refine gx_aload_n dL_law_248 rfl ?_
    refine gx_iload_n dL_law_249 rfl ?_
    refine gx_iconst dL_law_250 (v := 1) (by decide) ?_
    refine gx_iadd dL_law_251 ?_
    rw [show ((nI (6 * k + 1)) + 1 : Int32) = nI (6 * k + 1 + 1) from nI_1 _]
    refine gx_sld dL_law_252 (i := nI (6 * k + 1 + 1)) (x := S.2.2.2 (6 * k + 1 + 1)) (vp_in_nI (by omega) (by omega)) (by rw [nI_clamp (by omega)]) ?_
    refine gx_aload_n dL_law_253 rfl ?_
    refine gx_iload_n dL_law_254 rfl ?_
    refine gx_iconst dL_law_255 (v := 2) (by decide) ?_
    refine gx_iadd dL_law_256 ?_
    rw [show ((nI (6 * k + 1)) + 2 : Int32) = nI (6 * k + 1 + 2) from nI_add _ 2]
    refine gx_sld dL_law_257 (i := nI (6 * k + 1 + 2)) (x := S.2.2.2 (6 * k + 1 + 2)) (vp_in_nI (by omega) (by omega)) (by rw [nI_clamp (by omega)]) ?_
    refine gx_if_eq dL_law_258 (tgt := 265) (by decide) (fun hb2 => absurd hb2 (hb)) (fun hb2 => ?_)
    refine gx_iconst dL_law_261 (v := 1) (by decide) ?_
    refine gx_goto dL_law_262 (tgt := 266) (by decide) ?_
    refine gx_invV dL_law_266 wm_L_39 gt_X6_up wy_X6_up wl_X6_up (ci := 6) rfl rfl (gs_g6 R e2) (As := [.int (S.2.2.2 (6 * k + 1 + 1)), .int 1]) (rest := [.int (gs_bi (0 ≤ (S.2.2.2 (6 * k + 1 + 1)) ∧ (S.2.2.2 (6 * k + 1 + 1)) < nI (σ.1 0 0 0)))]) rfl rfl (Nat.le_of_ble_eq_true rfl) (by decide) (cc_X6_up R e2 e1 (S.2.2.2 (6 * k + 1 + 1)) 1) (fun r1 h q1 => ?_)
    obtain ⟨R, hs2, rfl⟩ := q1
    show gx_Ev _ _ _ _ _ [.int (gs_bi (0 ≤ (S.2.2.2 (6 * k + 1 + 1)) ∧ (S.2.2.2 (6 * k + 1 + 1)) < nI ((sc_up σ (S.2.2.2 (6 * k + 1 + 1)) 1).1 100 0 0))), .int (gs_bi (0 ≤ (S.2.2.2 (6 * k + 1 + 1)) ∧ (S.2.2.2 (6 * k + 1 + 1)) < nI (σ.1 0 0 0)))] _ _
    refine gx_icmp_eq dL_law_269 (tgt := 547) (by decide) (fun hcc => ?_) (fun hcc => absurd hcc (fun z => z (by rw [e3])))
    exact K _ _ _ R E
