/-! the law: its calls -/
def gl_H (I : Nat → gs_T → Prop) : Prop :=
  (∀ k σ, k ≤ 512 → I k σ → gw_W σ ∧ gv_V σ ∧ σ.1 31 0 0 = 1 ∧ ¬ σ.1 32 0 0 = 1 ∧ σ.1 125 0 0 + 4 ≤ 400 ∧ I (k + 1) σ) ∧
  (∀ k σ, k ≤ 512 → I k σ → ∀ x y z, sc_value σ x = sm_value σ x ∧ sc_clock σ x = sm_clock σ x ∧ sc_seen σ x = sm_seen σ x ∧ sc_answered σ x = sm_answered σ x ∧ sc_answer σ x = sm_answer σ x ∧ sc_taken σ x y = sm_taken σ x y ∧ sc_time σ x y z = sm_time σ x y z ∧ sc_flight σ x y = sm_flight σ x y ∧ σ.1 2 0 0 = σ.1 125 0 0 ∧ sc_count σ x = sm_count σ x) ∧
  (∀ k σ, k ≤ 512 → I k σ → ∀ x t a b c, gv_V (sc_send σ x t a b c) ∧ (sc_send σ x t a b c).1 31 0 0 = 1 ∧ (sc_send σ x t a b c).1 125 0 0 + 4 ≤ 400 ∧ sc_sendr σ x t a b c = sm_sendr (sc_send σ x t a b c) x t a b c ∧ I (k + 1) (sm_send (sc_send σ x t a b c) x t a b c)) ∧
  (∀ k σ, k ≤ 512 → I k σ → ∀ x, ∃ q n, q < 4 ∧ gv_V (sc_del σ x 0) ∧ (sc_del σ x 0).1 31 0 0 = 1 ∧ (sc_del σ x 0).1 125 0 0 < 400 ∧ (sm_bc (sc_del σ x 0) x → sm_pre (sm_bs (sc_del σ x 0) x.toNatClampNeg) 399 q n) ∧ sc_delr σ x 0 = sm_bringr (sc_del σ x 0) x q n ∧ I (k + 1) (sm_bring (sc_del σ x 0) x q n)) ∧
  (∀ k σ, k ≤ 512 → I k σ → ∀ x, ∃ q n, q < 4 ∧ gv_V (sc_del σ x 1) ∧ (sc_del σ x 1).1 31 0 0 = 1 ∧ (sc_del σ x 1).1 125 0 0 < 400 ∧ (sm_bc (sc_del σ x 1) x → sm_pre (sc_del σ x 1) x.toNatClampNeg q n) ∧ sc_delr σ x 1 = sm_twicer (sc_del σ x 1) x q n ∧ I (k + 1) (sm_twice (sc_del σ x 1) x q n)) ∧
  (∀ k σ, k ≤ 512 → I k σ → ∀ x b, b = 0 ∨ b = 1 → gv_V (sc_up σ x b) ∧ (sc_up σ x b).1 31 0 0 = 1 ∧ (sc_up σ x b).1 100 0 0 = σ.1 0 0 0 ∧ I (k + 1) (sm_up (sc_up σ x b) x b)) ∧
  (∀ k σ, k ≤ 512 → I k σ → gv_V (sc_ags σ) ∧ (sc_ags σ).1 31 0 0 = 1 ∧ gs_bi (sc_agr σ) = sm_ag (sc_ags σ) ((sc_ags σ).1 100 0 0) 0 1 ∧ I (k + 1) (sc_ags σ))
set_option maxHeartbeats 4000000 in
theorem cl_law_flight {S : gx_S} {h : gx_H} {σ : gs_T} {A : gs_A} {Q : Option Value → gx_H → Prop} {IV : Nat → gs_T → Prop} {k : Nat} (HH : gl_H IV) (R : gs_R h σ A) (J : IV k σ) (hN : S.2.2.1 ≤ 3073) (hk : 6 * k + 7 ≤ S.2.2.1) (K : ∀ (h : gx_H) (σ : gs_T) (A : gs_A), gs_R h σ A → IV (k + 1) σ → gx_Ev S gm_L_law 9 547 [some (.ref S.2.1), some (.ref (A 5 0 0)), some (.ref (A 6 0 0)), some (.int (nI (6 * k + 1)))] [] h Q) : gx_Ev S gm_L_law 9 274 [some (.ref S.2.1), some (.ref (A 5 0 0)), some (.ref (A 6 0 0)), some (.int (nI (6 * k + 1)))] [] h Q := by
  obtain ⟨W, V, hm, hh, hF, J1⟩ := HH.1 k σ (by omega) J
  refine gx_aload_n dL_law_274 rfl ?_
  refine gx_aload_n dL_law_275 rfl ?_
  refine gx_iload_n dL_law_276 rfl ?_
  refine gx_iconst dL_law_277 (v := 1) (by decide) ?_
  refine gx_iadd dL_law_278 ?_
  rw [show ((nI (6 * k + 1)) + 1 : Int32) = nI (6 * k + 1 + 1) from nI_1 _]
  refine gx_sld dL_law_279 (i := nI (6 * k + 1 + 1)) (x := S.2.2.2 (6 * k + 1 + 1)) (vp_in_nI (by omega) (by omega)) (by rw [nI_clamp (by omega)]) ?_
  refine gx_aload_n dL_law_280 rfl ?_
  refine gx_iload_n dL_law_281 rfl ?_
  refine gx_iconst dL_law_282 (v := 2) (by decide) ?_
  refine gx_iadd dL_law_283 ?_
  rw [show ((nI (6 * k + 1)) + 2 : Int32) = nI (6 * k + 1 + 2) from nI_add _ 2]
  refine gx_sld dL_law_284 (i := nI (6 * k + 1 + 2)) (x := S.2.2.2 (6 * k + 1 + 2)) (vp_in_nI (by omega) (by omega)) (by rw [nI_clamp (by omega)]) ?_
  refine gx_invV dL_law_285 wm_L_40 gt_X5_flight wy_X5_flight wl_X5_flight (ci := 5) rfl rfl (gs_g5 R ) (As := [.int (S.2.2.2 (6 * k + 1 + 1)), .int (S.2.2.2 (6 * k + 1 + 2))]) (rest := []) rfl rfl (Nat.le_of_ble_eq_true rfl) (by decide) (cc_X5_flight R W (S.2.2.2 (6 * k + 1 + 1)) (S.2.2.2 (6 * k + 1 + 2))) (fun r1 h q1 => ?_)
  obtain ⟨rfl, rfl⟩ := q1
  show gx_Ev _ _ _ _ _ [.int (sc_flight σ (S.2.2.2 (6 * k + 1 + 1)) (S.2.2.2 (6 * k + 1 + 2)))] _ _
  refine gx_aload_n dL_law_288 rfl ?_
  refine gx_aload_n dL_law_289 rfl ?_
  refine gx_iload_n dL_law_290 rfl ?_
  refine gx_iconst dL_law_291 (v := 1) (by decide) ?_
  refine gx_iadd dL_law_292 ?_
  rw [show ((nI (6 * k + 1)) + 1 : Int32) = nI (6 * k + 1 + 1) from nI_1 _]
  refine gx_sld dL_law_293 (i := nI (6 * k + 1 + 1)) (x := S.2.2.2 (6 * k + 1 + 1)) (vp_in_nI (by omega) (by omega)) (by rw [nI_clamp (by omega)]) ?_
  refine gx_aload_n dL_law_294 rfl ?_
  refine gx_iload_n dL_law_295 rfl ?_
  refine gx_iconst dL_law_296 (v := 2) (by decide) ?_
  refine gx_iadd dL_law_297 ?_
  rw [show ((nI (6 * k + 1)) + 2 : Int32) = nI (6 * k + 1 + 2) from nI_add _ 2]
  refine gx_sld dL_law_298 (i := nI (6 * k + 1 + 2)) (x := S.2.2.2 (6 * k + 1 + 2)) (vp_in_nI (by omega) (by omega)) (by rw [nI_clamp (by omega)]) ?_
  refine gx_invV dL_law_299 wm_L_44 gt_X6_flight wy_X6_flight wl_X6_flight (ci := 6) rfl rfl (gs_g6 R hm) (As := [.int (S.2.2.2 (6 * k + 1 + 1)), .int (S.2.2.2 (6 * k + 1 + 2))]) (rest := [.int (sc_flight σ (S.2.2.2 (6 * k + 1 + 1)) (S.2.2.2 (6 * k + 1 + 2)))]) rfl rfl (Nat.le_of_ble_eq_true rfl) (by decide) (cc_X6_flight R hm V (S.2.2.2 (6 * k + 1 + 1)) (S.2.2.2 (6 * k + 1 + 2)) (by omega)) (fun r1 h q1 => ?_)
  obtain ⟨rfl, rfl⟩ := q1
  show gx_Ev _ _ _ _ _ [.int (sm_flight σ (S.2.2.2 (6 * k + 1 + 1)) (S.2.2.2 (6 * k + 1 + 2))), .int (sc_flight σ (S.2.2.2 (6 * k + 1 + 1)) (S.2.2.2 (6 * k + 1 + 2)))] _ _
  refine gx_icmp_eq dL_law_302 (tgt := 547) (by decide) (fun hcc => ?_) (fun hcc => absurd hcc (fun z => z (HH.2.1 k σ (by omega) J (S.2.2.2 (6 * k + 1 + 1)) (S.2.2.2 (6 * k + 1 + 2)) (S.2.2.2 (6 * k + 1 + 3))).2.2.2.2.2.2.2.1))
  exact K _ _ _ R J1
set_option maxHeartbeats 4000000 in
theorem cl_law_flying {S : gx_S} {h : gx_H} {σ : gs_T} {A : gs_A} {Q : Option Value → gx_H → Prop} {IV : Nat → gs_T → Prop} {k : Nat} (HH : gl_H IV) (R : gs_R h σ A) (J : IV k σ) (hN : S.2.2.1 ≤ 3073) (hk : 6 * k + 7 ≤ S.2.2.1) (K : ∀ (h : gx_H) (σ : gs_T) (A : gs_A), gs_R h σ A → IV (k + 1) σ → gx_Ev S gm_L_law 9 547 [some (.ref S.2.1), some (.ref (A 5 0 0)), some (.ref (A 6 0 0)), some (.int (nI (6 * k + 1)))] [] h Q) : gx_Ev S gm_L_law 9 307 [some (.ref S.2.1), some (.ref (A 5 0 0)), some (.ref (A 6 0 0)), some (.int (nI (6 * k + 1)))] [] h Q := by
  obtain ⟨W, V, hm, hh, hF, J1⟩ := HH.1 k σ (by omega) J
  refine gx_aload_n dL_law_307 rfl ?_
  refine gx_invV dL_law_308 wm_L_45 gt_X5_flying wy_X5_flying wl_X5_flying (ci := 5) rfl rfl (gs_g5 R ) (As := []) (rest := []) rfl rfl (Nat.le_of_ble_eq_true rfl) (by decide) (cc_X5_flying R  ) (fun r1 h q1 => ?_)
  obtain ⟨rfl, rfl⟩ := q1
  show gx_Ev _ _ _ _ _ [.int (nI (σ.1 2 0 0))] _ _
  refine gx_aload_n dL_law_311 rfl ?_
  refine gx_invV dL_law_312 wm_L_49 gt_X6_flying wy_X6_flying wl_X6_flying (ci := 6) rfl rfl (gs_g6 R hm) (As := []) (rest := [.int (nI (σ.1 2 0 0))]) rfl rfl (Nat.le_of_ble_eq_true rfl) (by decide) (cc_X6_flying R hm V ) (fun r1 h q1 => ?_)
  obtain ⟨rfl, rfl⟩ := q1
  show gx_Ev _ _ _ _ _ [.int (nI (σ.1 125 0 0)), .int (nI (σ.1 2 0 0))] _ _
  refine gx_icmp_eq dL_law_315 (tgt := 547) (by decide) (fun hcc => ?_) (fun hcc => absurd hcc (fun z => z (congrArg nI (HH.2.1 k σ (by omega) J 0 0 0).2.2.2.2.2.2.2.2.1)))
  exact K _ _ _ R J1
set_option maxHeartbeats 4000000 in
theorem cl_law_taken {S : gx_S} {h : gx_H} {σ : gs_T} {A : gs_A} {Q : Option Value → gx_H → Prop} {IV : Nat → gs_T → Prop} {k : Nat} (HH : gl_H IV) (R : gs_R h σ A) (J : IV k σ) (hN : S.2.2.1 ≤ 3073) (hk : 6 * k + 7 ≤ S.2.2.1) (K : ∀ (h : gx_H) (σ : gs_T) (A : gs_A), gs_R h σ A → IV (k + 1) σ → gx_Ev S gm_L_law 9 547 [some (.ref S.2.1), some (.ref (A 5 0 0)), some (.ref (A 6 0 0)), some (.int (nI (6 * k + 1)))] [] h Q) : gx_Ev S gm_L_law 9 320 [some (.ref S.2.1), some (.ref (A 5 0 0)), some (.ref (A 6 0 0)), some (.int (nI (6 * k + 1)))] [] h Q := by
  obtain ⟨W, V, hm, hh, hF, J1⟩ := HH.1 k σ (by omega) J
  refine gx_aload_n dL_law_320 rfl ?_
  refine gx_aload_n dL_law_321 rfl ?_
  refine gx_iload_n dL_law_322 rfl ?_
  refine gx_iconst dL_law_323 (v := 1) (by decide) ?_
  refine gx_iadd dL_law_324 ?_
  rw [show ((nI (6 * k + 1)) + 1 : Int32) = nI (6 * k + 1 + 1) from nI_1 _]
  refine gx_sld dL_law_325 (i := nI (6 * k + 1 + 1)) (x := S.2.2.2 (6 * k + 1 + 1)) (vp_in_nI (by omega) (by omega)) (by rw [nI_clamp (by omega)]) ?_
  refine gx_aload_n dL_law_326 rfl ?_
  refine gx_iload_n dL_law_327 rfl ?_
  refine gx_iconst dL_law_328 (v := 2) (by decide) ?_
  refine gx_iadd dL_law_329 ?_
  rw [show ((nI (6 * k + 1)) + 2 : Int32) = nI (6 * k + 1 + 2) from nI_add _ 2]
  refine gx_sld dL_law_330 (i := nI (6 * k + 1 + 2)) (x := S.2.2.2 (6 * k + 1 + 2)) (vp_in_nI (by omega) (by omega)) (by rw [nI_clamp (by omega)]) ?_
  refine gx_invV dL_law_331 wm_L_50 gt_X5_taken wy_X5_taken wl_X5_taken (ci := 5) rfl rfl (gs_g5 R ) (As := [.int (S.2.2.2 (6 * k + 1 + 1)), .int (S.2.2.2 (6 * k + 1 + 2))]) (rest := []) rfl rfl (Nat.le_of_ble_eq_true rfl) (by decide) (cc_X5_taken R W (S.2.2.2 (6 * k + 1 + 1)) (S.2.2.2 (6 * k + 1 + 2))) (fun r1 h q1 => ?_)
  obtain ⟨rfl, rfl⟩ := q1
  show gx_Ev _ _ _ _ _ [.int (sc_taken σ (S.2.2.2 (6 * k + 1 + 1)) (S.2.2.2 (6 * k + 1 + 2)))] _ _
  refine gx_aload_n dL_law_334 rfl ?_
  refine gx_aload_n dL_law_335 rfl ?_
  refine gx_iload_n dL_law_336 rfl ?_
  refine gx_iconst dL_law_337 (v := 1) (by decide) ?_
  refine gx_iadd dL_law_338 ?_
  rw [show ((nI (6 * k + 1)) + 1 : Int32) = nI (6 * k + 1 + 1) from nI_1 _]
  refine gx_sld dL_law_339 (i := nI (6 * k + 1 + 1)) (x := S.2.2.2 (6 * k + 1 + 1)) (vp_in_nI (by omega) (by omega)) (by rw [nI_clamp (by omega)]) ?_
  refine gx_aload_n dL_law_340 rfl ?_
  refine gx_iload_n dL_law_341 rfl ?_
  refine gx_iconst dL_law_342 (v := 2) (by decide) ?_
  refine gx_iadd dL_law_343 ?_
  rw [show ((nI (6 * k + 1)) + 2 : Int32) = nI (6 * k + 1 + 2) from nI_add _ 2]
  refine gx_sld dL_law_344 (i := nI (6 * k + 1 + 2)) (x := S.2.2.2 (6 * k + 1 + 2)) (vp_in_nI (by omega) (by omega)) (by rw [nI_clamp (by omega)]) ?_
  refine gx_invV dL_law_345 wm_L_53 gt_X6_taken wy_X6_taken wl_X6_taken (ci := 6) rfl rfl (gs_g6 R hm) (As := [.int (S.2.2.2 (6 * k + 1 + 1)), .int (S.2.2.2 (6 * k + 1 + 2))]) (rest := [.int (sc_taken σ (S.2.2.2 (6 * k + 1 + 1)) (S.2.2.2 (6 * k + 1 + 2)))]) rfl rfl (Nat.le_of_ble_eq_true rfl) (by decide) (cc_X6_taken R hm V (S.2.2.2 (6 * k + 1 + 1)) (S.2.2.2 (6 * k + 1 + 2))) (fun r1 h q1 => ?_)
  obtain ⟨rfl, rfl⟩ := q1
  show gx_Ev _ _ _ _ _ [.int (sm_taken σ (S.2.2.2 (6 * k + 1 + 1)) (S.2.2.2 (6 * k + 1 + 2))), .int (sc_taken σ (S.2.2.2 (6 * k + 1 + 1)) (S.2.2.2 (6 * k + 1 + 2)))] _ _
  refine gx_icmp_eq dL_law_348 (tgt := 547) (by decide) (fun hcc => ?_) (fun hcc => absurd hcc (fun z => z (HH.2.1 k σ (by omega) J (S.2.2.2 (6 * k + 1 + 1)) (S.2.2.2 (6 * k + 1 + 2)) (S.2.2.2 (6 * k + 1 + 3))).2.2.2.2.2.1))
  exact K _ _ _ R J1
set_option maxHeartbeats 4000000 in
theorem cl_law_answer {S : gx_S} {h : gx_H} {σ : gs_T} {A : gs_A} {Q : Option Value → gx_H → Prop} {IV : Nat → gs_T → Prop} {k : Nat} (HH : gl_H IV) (R : gs_R h σ A) (J : IV k σ) (hN : S.2.2.1 ≤ 3073) (hk : 6 * k + 7 ≤ S.2.2.1) (K : ∀ (h : gx_H) (σ : gs_T) (A : gs_A), gs_R h σ A → IV (k + 1) σ → gx_Ev S gm_L_law 9 547 [some (.ref S.2.1), some (.ref (A 5 0 0)), some (.ref (A 6 0 0)), some (.int (nI (6 * k + 1)))] [] h Q) : gx_Ev S gm_L_law 9 353 [some (.ref S.2.1), some (.ref (A 5 0 0)), some (.ref (A 6 0 0)), some (.int (nI (6 * k + 1)))] [] h Q := by
  obtain ⟨W, V, hm, hh, hF, J1⟩ := HH.1 k σ (by omega) J
  refine gx_aload_n dL_law_353 rfl ?_
  refine gx_aload_n dL_law_354 rfl ?_
  refine gx_iload_n dL_law_355 rfl ?_
  refine gx_iconst dL_law_356 (v := 1) (by decide) ?_
  refine gx_iadd dL_law_357 ?_
  rw [show ((nI (6 * k + 1)) + 1 : Int32) = nI (6 * k + 1 + 1) from nI_1 _]
  refine gx_sld dL_law_358 (i := nI (6 * k + 1 + 1)) (x := S.2.2.2 (6 * k + 1 + 1)) (vp_in_nI (by omega) (by omega)) (by rw [nI_clamp (by omega)]) ?_
  refine gx_invV dL_law_359 wm_L_54 gt_X5_answer wy_X5_answer wl_X5_answer (ci := 5) rfl rfl (gs_g5 R ) (As := [.int (S.2.2.2 (6 * k + 1 + 1))]) (rest := []) rfl rfl (Nat.le_of_ble_eq_true rfl) (by decide) (cc_X5_answer R W (S.2.2.2 (6 * k + 1 + 1))) (fun r1 h q1 => ?_)
  obtain ⟨rfl, rfl⟩ := q1
  show gx_Ev _ _ _ _ _ [.int (sc_answer σ (S.2.2.2 (6 * k + 1 + 1)))] _ _
  refine gx_aload_n dL_law_362 rfl ?_
  refine gx_aload_n dL_law_363 rfl ?_
  refine gx_iload_n dL_law_364 rfl ?_
  refine gx_iconst dL_law_365 (v := 1) (by decide) ?_
  refine gx_iadd dL_law_366 ?_
  rw [show ((nI (6 * k + 1)) + 1 : Int32) = nI (6 * k + 1 + 1) from nI_1 _]
  refine gx_sld dL_law_367 (i := nI (6 * k + 1 + 1)) (x := S.2.2.2 (6 * k + 1 + 1)) (vp_in_nI (by omega) (by omega)) (by rw [nI_clamp (by omega)]) ?_
  refine gx_invV dL_law_368 wm_L_57 gt_X6_answer wy_X6_answer wl_X6_answer (ci := 6) rfl rfl (gs_g6 R hm) (As := [.int (S.2.2.2 (6 * k + 1 + 1))]) (rest := [.int (sc_answer σ (S.2.2.2 (6 * k + 1 + 1)))]) rfl rfl (Nat.le_of_ble_eq_true rfl) (by decide) (cc_X6_answer R hm V (S.2.2.2 (6 * k + 1 + 1))) (fun r1 h q1 => ?_)
  obtain ⟨rfl, rfl⟩ := q1
  show gx_Ev _ _ _ _ _ [.int (sm_answer σ (S.2.2.2 (6 * k + 1 + 1))), .int (sc_answer σ (S.2.2.2 (6 * k + 1 + 1)))] _ _
  refine gx_icmp_eq dL_law_371 (tgt := 547) (by decide) (fun hcc => ?_) (fun hcc => absurd hcc (fun z => z (HH.2.1 k σ (by omega) J (S.2.2.2 (6 * k + 1 + 1)) (S.2.2.2 (6 * k + 1 + 2)) (S.2.2.2 (6 * k + 1 + 3))).2.2.2.2.1))
  exact K _ _ _ R J1
set_option maxHeartbeats 4000000 in
theorem cl_law_answered {S : gx_S} {h : gx_H} {σ : gs_T} {A : gs_A} {Q : Option Value → gx_H → Prop} {IV : Nat → gs_T → Prop} {k : Nat} (HH : gl_H IV) (R : gs_R h σ A) (J : IV k σ) (hN : S.2.2.1 ≤ 3073) (hk : 6 * k + 7 ≤ S.2.2.1) (K : ∀ (h : gx_H) (σ : gs_T) (A : gs_A), gs_R h σ A → IV (k + 1) σ → gx_Ev S gm_L_law 9 547 [some (.ref S.2.1), some (.ref (A 5 0 0)), some (.ref (A 6 0 0)), some (.int (nI (6 * k + 1)))] [] h Q) : gx_Ev S gm_L_law 9 376 [some (.ref S.2.1), some (.ref (A 5 0 0)), some (.ref (A 6 0 0)), some (.int (nI (6 * k + 1)))] [] h Q := by
  obtain ⟨W, V, hm, hh, hF, J1⟩ := HH.1 k σ (by omega) J
  refine gx_aload_n dL_law_376 rfl ?_
  refine gx_aload_n dL_law_377 rfl ?_
  refine gx_iload_n dL_law_378 rfl ?_
  refine gx_iconst dL_law_379 (v := 1) (by decide) ?_
  refine gx_iadd dL_law_380 ?_
  rw [show ((nI (6 * k + 1)) + 1 : Int32) = nI (6 * k + 1 + 1) from nI_1 _]
  refine gx_sld dL_law_381 (i := nI (6 * k + 1 + 1)) (x := S.2.2.2 (6 * k + 1 + 1)) (vp_in_nI (by omega) (by omega)) (by rw [nI_clamp (by omega)]) ?_
  refine gx_invV dL_law_382 wm_L_58 gt_X5_answered wy_X5_answered wl_X5_answered (ci := 5) rfl rfl (gs_g5 R ) (As := [.int (S.2.2.2 (6 * k + 1 + 1))]) (rest := []) rfl rfl (Nat.le_of_ble_eq_true rfl) (by decide) (cc_X5_answered R W (S.2.2.2 (6 * k + 1 + 1))) (fun r1 h q1 => ?_)
  obtain ⟨rfl, rfl⟩ := q1
  show gx_Ev _ _ _ _ _ [.int (sc_answered σ (S.2.2.2 (6 * k + 1 + 1)))] _ _
  refine gx_aload_n dL_law_385 rfl ?_
  refine gx_aload_n dL_law_386 rfl ?_
  refine gx_iload_n dL_law_387 rfl ?_
  refine gx_iconst dL_law_388 (v := 1) (by decide) ?_
  refine gx_iadd dL_law_389 ?_
  rw [show ((nI (6 * k + 1)) + 1 : Int32) = nI (6 * k + 1 + 1) from nI_1 _]
  refine gx_sld dL_law_390 (i := nI (6 * k + 1 + 1)) (x := S.2.2.2 (6 * k + 1 + 1)) (vp_in_nI (by omega) (by omega)) (by rw [nI_clamp (by omega)]) ?_
  refine gx_invV dL_law_391 wm_L_62 gt_X6_answered wy_X6_answered wl_X6_answered (ci := 6) rfl rfl (gs_g6 R hm) (As := [.int (S.2.2.2 (6 * k + 1 + 1))]) (rest := [.int (sc_answered σ (S.2.2.2 (6 * k + 1 + 1)))]) rfl rfl (Nat.le_of_ble_eq_true rfl) (by decide) (cc_X6_answered R hm V (S.2.2.2 (6 * k + 1 + 1))) (fun r1 h q1 => ?_)
  obtain ⟨rfl, rfl⟩ := q1
  show gx_Ev _ _ _ _ _ [.int (sm_answered σ (S.2.2.2 (6 * k + 1 + 1))), .int (sc_answered σ (S.2.2.2 (6 * k + 1 + 1)))] _ _
  refine gx_icmp_eq dL_law_394 (tgt := 547) (by decide) (fun hcc => ?_) (fun hcc => absurd hcc (fun z => z (HH.2.1 k σ (by omega) J (S.2.2.2 (6 * k + 1 + 1)) (S.2.2.2 (6 * k + 1 + 2)) (S.2.2.2 (6 * k + 1 + 3))).2.2.2.1))
  exact K _ _ _ R J1
set_option maxHeartbeats 4000000 in
theorem cl_law_time {S : gx_S} {h : gx_H} {σ : gs_T} {A : gs_A} {Q : Option Value → gx_H → Prop} {IV : Nat → gs_T → Prop} {k : Nat} (HH : gl_H IV) (R : gs_R h σ A) (J : IV k σ) (hN : S.2.2.1 ≤ 3073) (hk : 6 * k + 7 ≤ S.2.2.1) (K : ∀ (h : gx_H) (σ : gs_T) (A : gs_A), gs_R h σ A → IV (k + 1) σ → gx_Ev S gm_L_law 9 547 [some (.ref S.2.1), some (.ref (A 5 0 0)), some (.ref (A 6 0 0)), some (.int (nI (6 * k + 1)))] [] h Q) : gx_Ev S gm_L_law 9 399 [some (.ref S.2.1), some (.ref (A 5 0 0)), some (.ref (A 6 0 0)), some (.int (nI (6 * k + 1)))] [] h Q := by
  obtain ⟨W, V, hm, hh, hF, J1⟩ := HH.1 k σ (by omega) J
  refine gx_aload_n dL_law_399 rfl ?_
  refine gx_aload_n dL_law_400 rfl ?_
  refine gx_iload_n dL_law_401 rfl ?_
  refine gx_iconst dL_law_402 (v := 1) (by decide) ?_
  refine gx_iadd dL_law_403 ?_
  rw [show ((nI (6 * k + 1)) + 1 : Int32) = nI (6 * k + 1 + 1) from nI_1 _]
  refine gx_sld dL_law_404 (i := nI (6 * k + 1 + 1)) (x := S.2.2.2 (6 * k + 1 + 1)) (vp_in_nI (by omega) (by omega)) (by rw [nI_clamp (by omega)]) ?_
  refine gx_aload_n dL_law_405 rfl ?_
  refine gx_iload_n dL_law_406 rfl ?_
  refine gx_iconst dL_law_407 (v := 2) (by decide) ?_
  refine gx_iadd dL_law_408 ?_
  rw [show ((nI (6 * k + 1)) + 2 : Int32) = nI (6 * k + 1 + 2) from nI_add _ 2]
  refine gx_sld dL_law_409 (i := nI (6 * k + 1 + 2)) (x := S.2.2.2 (6 * k + 1 + 2)) (vp_in_nI (by omega) (by omega)) (by rw [nI_clamp (by omega)]) ?_
  refine gx_aload_n dL_law_410 rfl ?_
  refine gx_iload_n dL_law_411 rfl ?_
  refine gx_iconst dL_law_412 (v := 3) (by decide) ?_
  refine gx_iadd dL_law_413 ?_
  rw [show ((nI (6 * k + 1)) + 3 : Int32) = nI (6 * k + 1 + 3) from nI_add _ 3]
  refine gx_sld dL_law_414 (i := nI (6 * k + 1 + 3)) (x := S.2.2.2 (6 * k + 1 + 3)) (vp_in_nI (by omega) (by omega)) (by rw [nI_clamp (by omega)]) ?_
  refine gx_invV dL_law_415 wm_L_63 gt_X5_time wy_X5_time wl_X5_time (ci := 5) rfl rfl (gs_g5 R ) (As := [.int (S.2.2.2 (6 * k + 1 + 1)), .int (S.2.2.2 (6 * k + 1 + 2)), .int (S.2.2.2 (6 * k + 1 + 3))]) (rest := []) rfl rfl (Nat.le_of_ble_eq_true rfl) (by decide) (cc_X5_time R W (S.2.2.2 (6 * k + 1 + 1)) (S.2.2.2 (6 * k + 1 + 2)) (S.2.2.2 (6 * k + 1 + 3))) (fun r1 h q1 => ?_)
  obtain ⟨rfl, rfl⟩ := q1
  show gx_Ev _ _ _ _ _ [.int (sc_time σ (S.2.2.2 (6 * k + 1 + 1)) (S.2.2.2 (6 * k + 1 + 2)) (S.2.2.2 (6 * k + 1 + 3)))] _ _
  refine gx_aload_n dL_law_418 rfl ?_
  refine gx_aload_n dL_law_419 rfl ?_
  refine gx_iload_n dL_law_420 rfl ?_
  refine gx_iconst dL_law_421 (v := 1) (by decide) ?_
  refine gx_iadd dL_law_422 ?_
  rw [show ((nI (6 * k + 1)) + 1 : Int32) = nI (6 * k + 1 + 1) from nI_1 _]
  refine gx_sld dL_law_423 (i := nI (6 * k + 1 + 1)) (x := S.2.2.2 (6 * k + 1 + 1)) (vp_in_nI (by omega) (by omega)) (by rw [nI_clamp (by omega)]) ?_
  refine gx_aload_n dL_law_424 rfl ?_
  refine gx_iload_n dL_law_425 rfl ?_
  refine gx_iconst dL_law_426 (v := 2) (by decide) ?_
  refine gx_iadd dL_law_427 ?_
  rw [show ((nI (6 * k + 1)) + 2 : Int32) = nI (6 * k + 1 + 2) from nI_add _ 2]
  refine gx_sld dL_law_428 (i := nI (6 * k + 1 + 2)) (x := S.2.2.2 (6 * k + 1 + 2)) (vp_in_nI (by omega) (by omega)) (by rw [nI_clamp (by omega)]) ?_
  refine gx_aload_n dL_law_429 rfl ?_
  refine gx_iload_n dL_law_430 rfl ?_
  refine gx_iconst dL_law_431 (v := 3) (by decide) ?_
  refine gx_iadd dL_law_432 ?_
  rw [show ((nI (6 * k + 1)) + 3 : Int32) = nI (6 * k + 1 + 3) from nI_add _ 3]
  refine gx_sld dL_law_433 (i := nI (6 * k + 1 + 3)) (x := S.2.2.2 (6 * k + 1 + 3)) (vp_in_nI (by omega) (by omega)) (by rw [nI_clamp (by omega)]) ?_
  refine gx_invV dL_law_434 wm_L_67 gt_X6_time wy_X6_time wl_X6_time (ci := 6) rfl rfl (gs_g6 R hm) (As := [.int (S.2.2.2 (6 * k + 1 + 1)), .int (S.2.2.2 (6 * k + 1 + 2)), .int (S.2.2.2 (6 * k + 1 + 3))]) (rest := [.int (sc_time σ (S.2.2.2 (6 * k + 1 + 1)) (S.2.2.2 (6 * k + 1 + 2)) (S.2.2.2 (6 * k + 1 + 3)))]) rfl rfl (Nat.le_of_ble_eq_true rfl) (by decide) (cc_X6_time R hm V (S.2.2.2 (6 * k + 1 + 1)) (S.2.2.2 (6 * k + 1 + 2)) (S.2.2.2 (6 * k + 1 + 3))) (fun r1 h q1 => ?_)
  obtain ⟨rfl, rfl⟩ := q1
  show gx_Ev _ _ _ _ _ [.int (sm_time σ (S.2.2.2 (6 * k + 1 + 1)) (S.2.2.2 (6 * k + 1 + 2)) (S.2.2.2 (6 * k + 1 + 3))), .int (sc_time σ (S.2.2.2 (6 * k + 1 + 1)) (S.2.2.2 (6 * k + 1 + 2)) (S.2.2.2 (6 * k + 1 + 3)))] _ _
  refine gx_icmp_eq dL_law_437 (tgt := 547) (by decide) (fun hcc => ?_) (fun hcc => absurd hcc (fun z => z (HH.2.1 k σ (by omega) J (S.2.2.2 (6 * k + 1 + 1)) (S.2.2.2 (6 * k + 1 + 2)) (S.2.2.2 (6 * k + 1 + 3))).2.2.2.2.2.2.1))
  exact K _ _ _ R J1
set_option maxHeartbeats 4000000 in
theorem cl_law_value {S : gx_S} {h : gx_H} {σ : gs_T} {A : gs_A} {Q : Option Value → gx_H → Prop} {IV : Nat → gs_T → Prop} {k : Nat} (HH : gl_H IV) (R : gs_R h σ A) (J : IV k σ) (hN : S.2.2.1 ≤ 3073) (hk : 6 * k + 7 ≤ S.2.2.1) (K : ∀ (h : gx_H) (σ : gs_T) (A : gs_A), gs_R h σ A → IV (k + 1) σ → gx_Ev S gm_L_law 9 547 [some (.ref S.2.1), some (.ref (A 5 0 0)), some (.ref (A 6 0 0)), some (.int (nI (6 * k + 1)))] [] h Q) : gx_Ev S gm_L_law 9 442 [some (.ref S.2.1), some (.ref (A 5 0 0)), some (.ref (A 6 0 0)), some (.int (nI (6 * k + 1)))] [] h Q := by
  obtain ⟨W, V, hm, hh, hF, J1⟩ := HH.1 k σ (by omega) J
  refine gx_aload_n dL_law_442 rfl ?_
  refine gx_aload_n dL_law_443 rfl ?_
  refine gx_iload_n dL_law_444 rfl ?_
  refine gx_iconst dL_law_445 (v := 1) (by decide) ?_
  refine gx_iadd dL_law_446 ?_
  rw [show ((nI (6 * k + 1)) + 1 : Int32) = nI (6 * k + 1 + 1) from nI_1 _]
  refine gx_sld dL_law_447 (i := nI (6 * k + 1 + 1)) (x := S.2.2.2 (6 * k + 1 + 1)) (vp_in_nI (by omega) (by omega)) (by rw [nI_clamp (by omega)]) ?_
  refine gx_invV dL_law_448 wm_L_68 gt_X5_value wy_X5_value wl_X5_value (ci := 5) rfl rfl (gs_g5 R ) (As := [.int (S.2.2.2 (6 * k + 1 + 1))]) (rest := []) rfl rfl (Nat.le_of_ble_eq_true rfl) (by decide) (cc_X5_value R W (S.2.2.2 (6 * k + 1 + 1))) (fun r1 h q1 => ?_)
  obtain ⟨rfl, rfl⟩ := q1
  show gx_Ev _ _ _ _ _ [.int (sc_value σ (S.2.2.2 (6 * k + 1 + 1)))] _ _
  refine gx_aload_n dL_law_451 rfl ?_
  refine gx_aload_n dL_law_452 rfl ?_
  refine gx_iload_n dL_law_453 rfl ?_
  refine gx_iconst dL_law_454 (v := 1) (by decide) ?_
  refine gx_iadd dL_law_455 ?_
  rw [show ((nI (6 * k + 1)) + 1 : Int32) = nI (6 * k + 1 + 1) from nI_1 _]
  refine gx_sld dL_law_456 (i := nI (6 * k + 1 + 1)) (x := S.2.2.2 (6 * k + 1 + 1)) (vp_in_nI (by omega) (by omega)) (by rw [nI_clamp (by omega)]) ?_
  refine gx_invV dL_law_457 wm_L_71 gt_X6_value wy_X6_value wl_X6_value (ci := 6) rfl rfl (gs_g6 R hm) (As := [.int (S.2.2.2 (6 * k + 1 + 1))]) (rest := [.int (sc_value σ (S.2.2.2 (6 * k + 1 + 1)))]) rfl rfl (Nat.le_of_ble_eq_true rfl) (by decide) (cc_X6_value R hm V (S.2.2.2 (6 * k + 1 + 1))) (fun r1 h q1 => ?_)
  obtain ⟨rfl, rfl⟩ := q1
  show gx_Ev _ _ _ _ _ [.int (sm_value σ (S.2.2.2 (6 * k + 1 + 1))), .int (sc_value σ (S.2.2.2 (6 * k + 1 + 1)))] _ _
  refine gx_icmp_eq dL_law_460 (tgt := 547) (by decide) (fun hcc => ?_) (fun hcc => absurd hcc (fun z => z (HH.2.1 k σ (by omega) J (S.2.2.2 (6 * k + 1 + 1)) (S.2.2.2 (6 * k + 1 + 2)) (S.2.2.2 (6 * k + 1 + 3))).1))
  exact K _ _ _ R J1
set_option maxHeartbeats 4000000 in
theorem cl_law_clock {S : gx_S} {h : gx_H} {σ : gs_T} {A : gs_A} {Q : Option Value → gx_H → Prop} {IV : Nat → gs_T → Prop} {k : Nat} (HH : gl_H IV) (R : gs_R h σ A) (J : IV k σ) (hN : S.2.2.1 ≤ 3073) (hk : 6 * k + 7 ≤ S.2.2.1) (K : ∀ (h : gx_H) (σ : gs_T) (A : gs_A), gs_R h σ A → IV (k + 1) σ → gx_Ev S gm_L_law 9 547 [some (.ref S.2.1), some (.ref (A 5 0 0)), some (.ref (A 6 0 0)), some (.int (nI (6 * k + 1)))] [] h Q) : gx_Ev S gm_L_law 9 465 [some (.ref S.2.1), some (.ref (A 5 0 0)), some (.ref (A 6 0 0)), some (.int (nI (6 * k + 1)))] [] h Q := by
  obtain ⟨W, V, hm, hh, hF, J1⟩ := HH.1 k σ (by omega) J
  refine gx_aload_n dL_law_465 rfl ?_
  refine gx_aload_n dL_law_466 rfl ?_
  refine gx_iload_n dL_law_467 rfl ?_
  refine gx_iconst dL_law_468 (v := 1) (by decide) ?_
  refine gx_iadd dL_law_469 ?_
  rw [show ((nI (6 * k + 1)) + 1 : Int32) = nI (6 * k + 1 + 1) from nI_1 _]
  refine gx_sld dL_law_470 (i := nI (6 * k + 1 + 1)) (x := S.2.2.2 (6 * k + 1 + 1)) (vp_in_nI (by omega) (by omega)) (by rw [nI_clamp (by omega)]) ?_
  refine gx_invV dL_law_471 wm_L_72 gt_X5_clock wy_X5_clock wl_X5_clock (ci := 5) rfl rfl (gs_g5 R ) (As := [.int (S.2.2.2 (6 * k + 1 + 1))]) (rest := []) rfl rfl (Nat.le_of_ble_eq_true rfl) (by decide) (cc_X5_clock R W (S.2.2.2 (6 * k + 1 + 1))) (fun r1 h q1 => ?_)
  obtain ⟨rfl, rfl⟩ := q1
  show gx_Ev _ _ _ _ _ [.int (sc_clock σ (S.2.2.2 (6 * k + 1 + 1)))] _ _
  refine gx_aload_n dL_law_474 rfl ?_
  refine gx_aload_n dL_law_475 rfl ?_
  refine gx_iload_n dL_law_476 rfl ?_
  refine gx_iconst dL_law_477 (v := 1) (by decide) ?_
  refine gx_iadd dL_law_478 ?_
  rw [show ((nI (6 * k + 1)) + 1 : Int32) = nI (6 * k + 1 + 1) from nI_1 _]
  refine gx_sld dL_law_479 (i := nI (6 * k + 1 + 1)) (x := S.2.2.2 (6 * k + 1 + 1)) (vp_in_nI (by omega) (by omega)) (by rw [nI_clamp (by omega)]) ?_
  refine gx_invV dL_law_480 wm_L_75 gt_X6_clock wy_X6_clock wl_X6_clock (ci := 6) rfl rfl (gs_g6 R hm) (As := [.int (S.2.2.2 (6 * k + 1 + 1))]) (rest := [.int (sc_clock σ (S.2.2.2 (6 * k + 1 + 1)))]) rfl rfl (Nat.le_of_ble_eq_true rfl) (by decide) (cc_X6_clock R hm V (S.2.2.2 (6 * k + 1 + 1))) (fun r1 h q1 => ?_)
  obtain ⟨rfl, rfl⟩ := q1
  show gx_Ev _ _ _ _ _ [.int (sm_clock σ (S.2.2.2 (6 * k + 1 + 1))), .int (sc_clock σ (S.2.2.2 (6 * k + 1 + 1)))] _ _
  refine gx_icmp_eq dL_law_483 (tgt := 547) (by decide) (fun hcc => ?_) (fun hcc => absurd hcc (fun z => z (HH.2.1 k σ (by omega) J (S.2.2.2 (6 * k + 1 + 1)) (S.2.2.2 (6 * k + 1 + 2)) (S.2.2.2 (6 * k + 1 + 3))).2.1))
  exact K _ _ _ R J1
set_option maxHeartbeats 4000000 in
theorem cl_law_seen {S : gx_S} {h : gx_H} {σ : gs_T} {A : gs_A} {Q : Option Value → gx_H → Prop} {IV : Nat → gs_T → Prop} {k : Nat} (HH : gl_H IV) (R : gs_R h σ A) (J : IV k σ) (hN : S.2.2.1 ≤ 3073) (hk : 6 * k + 7 ≤ S.2.2.1) (K : ∀ (h : gx_H) (σ : gs_T) (A : gs_A), gs_R h σ A → IV (k + 1) σ → gx_Ev S gm_L_law 9 547 [some (.ref S.2.1), some (.ref (A 5 0 0)), some (.ref (A 6 0 0)), some (.int (nI (6 * k + 1)))] [] h Q) : gx_Ev S gm_L_law 9 488 [some (.ref S.2.1), some (.ref (A 5 0 0)), some (.ref (A 6 0 0)), some (.int (nI (6 * k + 1)))] [] h Q := by
  obtain ⟨W, V, hm, hh, hF, J1⟩ := HH.1 k σ (by omega) J
  refine gx_aload_n dL_law_488 rfl ?_
  refine gx_aload_n dL_law_489 rfl ?_
  refine gx_iload_n dL_law_490 rfl ?_
  refine gx_iconst dL_law_491 (v := 1) (by decide) ?_
  refine gx_iadd dL_law_492 ?_
  rw [show ((nI (6 * k + 1)) + 1 : Int32) = nI (6 * k + 1 + 1) from nI_1 _]
  refine gx_sld dL_law_493 (i := nI (6 * k + 1 + 1)) (x := S.2.2.2 (6 * k + 1 + 1)) (vp_in_nI (by omega) (by omega)) (by rw [nI_clamp (by omega)]) ?_
  refine gx_invV dL_law_494 wm_L_76 gt_X5_seen wy_X5_seen wl_X5_seen (ci := 5) rfl rfl (gs_g5 R ) (As := [.int (S.2.2.2 (6 * k + 1 + 1))]) (rest := []) rfl rfl (Nat.le_of_ble_eq_true rfl) (by decide) (cc_X5_seen R W (S.2.2.2 (6 * k + 1 + 1))) (fun r1 h q1 => ?_)
  obtain ⟨rfl, rfl⟩ := q1
  show gx_Ev _ _ _ _ _ [.int (sc_seen σ (S.2.2.2 (6 * k + 1 + 1)))] _ _
  refine gx_aload_n dL_law_497 rfl ?_
  refine gx_aload_n dL_law_498 rfl ?_
  refine gx_iload_n dL_law_499 rfl ?_
  refine gx_iconst dL_law_500 (v := 1) (by decide) ?_
  refine gx_iadd dL_law_501 ?_
  rw [show ((nI (6 * k + 1)) + 1 : Int32) = nI (6 * k + 1 + 1) from nI_1 _]
  refine gx_sld dL_law_502 (i := nI (6 * k + 1 + 1)) (x := S.2.2.2 (6 * k + 1 + 1)) (vp_in_nI (by omega) (by omega)) (by rw [nI_clamp (by omega)]) ?_
  refine gx_invV dL_law_503 wm_L_79 gt_X6_seen wy_X6_seen wl_X6_seen (ci := 6) rfl rfl (gs_g6 R hm) (As := [.int (S.2.2.2 (6 * k + 1 + 1))]) (rest := [.int (sc_seen σ (S.2.2.2 (6 * k + 1 + 1)))]) rfl rfl (Nat.le_of_ble_eq_true rfl) (by decide) (cc_X6_seen R hm V (S.2.2.2 (6 * k + 1 + 1))) (fun r1 h q1 => ?_)
  obtain ⟨rfl, rfl⟩ := q1
  show gx_Ev _ _ _ _ _ [.int (sm_seen σ (S.2.2.2 (6 * k + 1 + 1))), .int (sc_seen σ (S.2.2.2 (6 * k + 1 + 1)))] _ _
  refine gx_icmp_eq dL_law_506 (tgt := 547) (by decide) (fun hcc => ?_) (fun hcc => absurd hcc (fun z => z (HH.2.1 k σ (by omega) J (S.2.2.2 (6 * k + 1 + 1)) (S.2.2.2 (6 * k + 1 + 2)) (S.2.2.2 (6 * k + 1 + 3))).2.2.1))
  exact K _ _ _ R J1
set_option maxHeartbeats 4000000 in
theorem cl_law_count {S : gx_S} {h : gx_H} {σ : gs_T} {A : gs_A} {Q : Option Value → gx_H → Prop} {IV : Nat → gs_T → Prop} {k : Nat} (HH : gl_H IV) (R : gs_R h σ A) (J : IV k σ) (hN : S.2.2.1 ≤ 3073) (hk : 6 * k + 7 ≤ S.2.2.1) (K : ∀ (h : gx_H) (σ : gs_T) (A : gs_A), gs_R h σ A → IV (k + 1) σ → gx_Ev S gm_L_law 9 547 [some (.ref S.2.1), some (.ref (A 5 0 0)), some (.ref (A 6 0 0)), some (.int (nI (6 * k + 1)))] [] h Q) : gx_Ev S gm_L_law 9 524 [some (.ref S.2.1), some (.ref (A 5 0 0)), some (.ref (A 6 0 0)), some (.int (nI (6 * k + 1)))] [] h Q := by
  obtain ⟨W, V, hm, hh, hF, J1⟩ := HH.1 k σ (by omega) J
  refine gx_aload_n dL_law_524 rfl ?_
  refine gx_aload_n dL_law_525 rfl ?_
  refine gx_iload_n dL_law_526 rfl ?_
  refine gx_iconst dL_law_527 (v := 1) (by decide) ?_
  refine gx_iadd dL_law_528 ?_
  rw [show ((nI (6 * k + 1)) + 1 : Int32) = nI (6 * k + 1 + 1) from nI_1 _]
  refine gx_sld dL_law_529 (i := nI (6 * k + 1 + 1)) (x := S.2.2.2 (6 * k + 1 + 1)) (vp_in_nI (by omega) (by omega)) (by rw [nI_clamp (by omega)]) ?_
  refine gx_invV dL_law_530 wm_L_85 gt_X5_count wy_X5_count wl_X5_count (ci := 5) rfl rfl (gs_g5 R ) (As := [.int (S.2.2.2 (6 * k + 1 + 1))]) (rest := []) rfl rfl (Nat.le_of_ble_eq_true rfl) (by decide) (cc_X5_count R W (S.2.2.2 (6 * k + 1 + 1))) (fun r1 h q1 => ?_)
  obtain ⟨rfl, rfl⟩ := q1
  show gx_Ev _ _ _ _ _ [.int (sc_count σ (S.2.2.2 (6 * k + 1 + 1)))] _ _
  refine gx_aload_n dL_law_533 rfl ?_
  refine gx_aload_n dL_law_534 rfl ?_
  refine gx_iload_n dL_law_535 rfl ?_
  refine gx_iconst dL_law_536 (v := 1) (by decide) ?_
  refine gx_iadd dL_law_537 ?_
  rw [show ((nI (6 * k + 1)) + 1 : Int32) = nI (6 * k + 1 + 1) from nI_1 _]
  refine gx_sld dL_law_538 (i := nI (6 * k + 1 + 1)) (x := S.2.2.2 (6 * k + 1 + 1)) (vp_in_nI (by omega) (by omega)) (by rw [nI_clamp (by omega)]) ?_
  refine gx_invV dL_law_539 wm_L_88 gt_X6_count wy_X6_count wl_X6_count (ci := 6) rfl rfl (gs_g6 R hm) (As := [.int (S.2.2.2 (6 * k + 1 + 1))]) (rest := [.int (sc_count σ (S.2.2.2 (6 * k + 1 + 1)))]) rfl rfl (Nat.le_of_ble_eq_true rfl) (by decide) (cc_X6_count R hm V (S.2.2.2 (6 * k + 1 + 1))) (fun r1 h q1 => ?_)
  obtain ⟨rfl, rfl⟩ := q1
  show gx_Ev _ _ _ _ _ [.int (sm_count σ (S.2.2.2 (6 * k + 1 + 1))), .int (sc_count σ (S.2.2.2 (6 * k + 1 + 1)))] _ _
  refine gx_icmp_eq dL_law_542 (tgt := 547) (by decide) (fun hcc => ?_) (fun hcc => absurd hcc (fun z => z (HH.2.1 k σ (by omega) J (S.2.2.2 (6 * k + 1 + 1)) (S.2.2.2 (6 * k + 1 + 2)) (S.2.2.2 (6 * k + 1 + 3))).2.2.2.2.2.2.2.2.2))
  exact K _ _ _ R J1
