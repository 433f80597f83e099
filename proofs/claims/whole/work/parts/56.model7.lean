/-! the reference: workOut -/
def sm_wt (σ : gs_T) (g o : Nat) (va vb an : Int32) : gs_T :=
  let s1 := if σ.1 108 o 0 % σ.1 100 0 0 = g ∧ ¬ σ.2.1 106 o 0 = 0 then gs_i σ 103 (σ.1 108 o 0) 0 vb else σ
  let s2 := if σ.1 107 o 0 % σ.1 100 0 0 = g then gs_i s1 103 (σ.1 107 o 0) 0 va else s1
  let s3 := gs_i s2 118 (40 * g + o) 0 1
  if σ.2.1 111 o 0 = 0 then gs_i (gs_i (gs_i s3 111 o 0 1) 112 o 0 an) 113 (σ.1 105 o 0) 0 (gs_mg (σ.2.1 113 (σ.1 105 o 0) 0) (σ.2.1 115 (40 * g + o) 0)) else s3
set_option maxHeartbeats 4000000 in
theorem cl_wo_t {S : gx_S} {h : gx_H} {σ : gs_T} {A : gs_A} (R : gs_R h σ A) (hm : σ.1 31 0 0 = 1) (V : gv_V σ) {g o : Nat} (hg4 : g < 4) (ho : o < 40) (va vb an : Int32) (w8 : Option Value) : gx_Ev S gm_X6_workOut 3 235 [some (.ref (A 6 0 0)), some (.int (nI g)), some (.int (nI o)), some (.int (nI (σ.1 107 o 0))), some (.int (nI (σ.1 108 o 0))), some (.int va), some (.int vb), some (.int an), w8] [] h (fun r h' => gx_rt none r ∧ gs_R h' (sm_wt σ g o va vb an) A ∧ gs_sm h h' ∧ r = none) := by
  refine gx_iload dX6_workOut_235 rfl ?_
  refine gx_aload_n dX6_workOut_237 rfl ?_
  refine gx_get dX6_workOut_238 gf_X6_101 (gs_g6 R hm) (v := .int (nI (σ.1 100 0 0))) (rfl) ?_
  refine gx_irem dX6_workOut_241 (nI_ne0 (by have := gv_n2 V; omega) (by have := gv_n4 V; omega)) ?_
  rw [show ((nI (σ.1 108 o 0)) - (nI (σ.1 108 o 0)) / (nI (σ.1 100 0 0)) * (nI (σ.1 100 0 0)) : Int32) = nI (σ.1 108 o 0 % σ.1 100 0 0) from pk_rem (by have := gv_a V o; have := gv_bk V o; omega) (by have := gv_n2 V; omega) (by have := gv_n4 V; omega)]
  refine gx_iload_n dX6_workOut_242 rfl ?_
  refine gx_icmp_ne dX6_workOut_243 (tgt := 264) (by decide) (fun hb => ?_) (fun hb => ?_)
  · have hb : ¬ σ.1 108 o 0 % σ.1 100 0 0 = g := fun z => hb (congrArg nI z)
    refine gx_iload_n dX6_workOut_264 rfl ?_
    refine gx_aload_n dX6_workOut_265 rfl ?_
    refine gx_get dX6_workOut_266 gf_X6_101 (gs_g6 R hm) (v := .int (nI (σ.1 100 0 0))) (rfl) ?_
    refine gx_irem dX6_workOut_269 (nI_ne0 (by have := gv_n2 V; omega) (by have := gv_n4 V; omega)) ?_
    rw [show ((nI (σ.1 107 o 0)) - (nI (σ.1 107 o 0)) / (nI (σ.1 100 0 0)) * (nI (σ.1 100 0 0)) : Int32) = nI (σ.1 107 o 0 % σ.1 100 0 0) from pk_rem (by have := gv_a V o; have := gv_bk V o; omega) (by have := gv_n2 V; omega) (by have := gv_n4 V; omega)]
    refine gx_iload_n dX6_workOut_270 rfl ?_
    refine gx_icmp_ne dX6_workOut_271 (tgt := 282) (by decide) (fun ha => ?_) (fun ha => ?_)
    · have ha : ¬ σ.1 107 o 0 % σ.1 100 0 0 = g := fun z => ha (congrArg nI z)
      refine gx_aload_n dX6_workOut_282 rfl ?_
      refine gx_get dX6_workOut_283 gf_X6_59 (gs_g6 R hm) (v := .ref (A 38 0 0)) (rfl) ?_
      refine gx_iload_n dX6_workOut_286 rfl ?_
      refine gx_iload_n dX6_workOut_287 rfl ?_
      refine gx_invS dX6_workOut_288 wm_X6_105 gt_X6_at ws_X6_at (As := [.int (nI g), .int (nI o)]) (rest := [.ref (A 38 0 0)]) rfl rfl (Nat.le_of_ble_eq_true rfl) (by decide) (cc_X6_atE (g := g) (o := o) (rfl) (rfl)) (fun r1 h q1 => ?_)
      obtain ⟨rfl, rfl⟩ := q1
      show gx_Ev _ _ _ _ _ [.int (nI (40 * g + o)), .ref (A 38 0 0)] _ _
      refine gx_iconst dX6_workOut_291 (v := 1) (by decide) ?_
      refine ga_I118 (σ := σ) hm dX6_workOut_292 R (by first | exact Or.inl rfl | exact Or.inr rfl) (q := 40 * g + o) (v := 1) (rfl) (by first | omega | (have := gv_a V o; omega) | (have := gv_bk V o; omega) | (have := gv_cl V o; omega)) (fun h R hs0 => ?_)
      refine gx_aload_n dX6_workOut_293 rfl ?_
      refine gx_get dX6_workOut_294 gf_X6_38 (gs_g6 R hm) (v := .ref (A 31 0 0)) (rfl) ?_
      refine gx_iload_n dX6_workOut_297 rfl ?_
      refine gq_31 dX6_workOut_298 R hm (q := o) (rfl) (by first | omega | (have := gv_a V o; omega) | (have := gv_bk V o; omega) | (have := gv_cl V o; omega)) (v := σ.2.1 111 o 0) (rfl) ?_
      refine gx_if_ne dX6_workOut_299 (tgt := 372) (by decide) (fun hn => ?_) (fun hn => ?_)
      · refine gx_return dX6_workOut_372 ?_
        have hB : ¬ (σ.1 108 o 0 % σ.1 100 0 0 = g ∧ ¬ σ.2.1 106 o 0 = 0) := fun z => hb z.1
        exact ⟨rfl, by simp only [sm_wt]; rw [if_neg hB, if_neg ha, if_neg hn]; exact R, (gs_sm.rfl.trans hs0), rfl⟩
      · refine gx_aload_n dX6_workOut_302 rfl ?_
        refine gx_get dX6_workOut_303 gf_X6_38 (gs_g6 R hm) (v := .ref (A 31 0 0)) (rfl) ?_
        refine gx_iload_n dX6_workOut_306 rfl ?_
        refine gx_iconst dX6_workOut_307 (v := 1) (by decide) ?_
        refine ga_I111 (σ := (gs_i σ 118 (40 * g + o) 0 1)) hm dX6_workOut_308 R (by first | exact Or.inl rfl | exact Or.inr rfl) (q := o) (v := 1) (rfl) (by first | omega | (have := gv_a V o; omega) | (have := gv_bk V o; omega) | (have := gv_cl V o; omega)) (fun h R hs1 => ?_)
        refine gx_aload_n dX6_workOut_309 rfl ?_
        refine gx_get dX6_workOut_310 gf_X6_41 (gs_g6 R hm) (v := .ref (A 32 0 0)) (rfl) ?_
        refine gx_iload_n dX6_workOut_313 rfl ?_
        refine gx_iload dX6_workOut_314 rfl ?_
        refine ga_I112 (σ := (gs_i (gs_i σ 118 (40 * g + o) 0 1) 111 o 0 1)) hm dX6_workOut_316 R (q := o) (v := an) (rfl) (by first | omega | (have := gv_a V o; omega) | (have := gv_bk V o; omega) | (have := gv_cl V o; omega)) (fun h R hs2 => ?_)
        refine gx_aload_n dX6_workOut_317 rfl ?_
        refine gx_get dX6_workOut_318 gf_X6_20 (gs_g6 R hm) (v := .ref (A 25 0 0)) (rfl) ?_
        refine gx_iload_n dX6_workOut_321 rfl ?_
        refine gq_25 dX6_workOut_322 R hm (q := o) (rfl) (by first | omega | (have := gv_a V o; omega) | (have := gv_bk V o; omega) | (have := gv_cl V o; omega)) (v := nI (σ.1 105 o 0)) (rfl) ?_
        refine gx_istore dX6_workOut_323 (by decide) rfl (L' := [some (.ref (A 6 0 0)), some (.int (nI g)), some (.int (nI o)), some (.int (nI (σ.1 107 o 0))), some (.int (nI (σ.1 108 o 0))), some (.int va), some (.int vb), some (.int an), some (.int (nI (σ.1 105 o 0)))]) rfl ?_
        refine gx_aload_n dX6_workOut_325 rfl ?_
        refine gx_get dX6_workOut_326 gf_X6_44 (gs_g6 R hm) (v := .ref (A 33 0 0)) (rfl) ?_
        refine gx_iload dX6_workOut_329 rfl ?_
        refine gx_aload_n dX6_workOut_331 rfl ?_
        refine gx_get dX6_workOut_332 gf_X6_44 (gs_g6 R hm) (v := .ref (A 33 0 0)) (rfl) ?_
        refine gx_iload dX6_workOut_335 rfl ?_
        refine gq_33 dX6_workOut_337 R hm (q := σ.1 105 o 0) (rfl) (by first | omega | (have := gv_a V o; omega) | (have := gv_bk V o; omega) | (have := gv_cl V o; omega)) (v := σ.2.1 113 (σ.1 105 o 0) 0) (rfl) ?_
        refine gx_aload_n dX6_workOut_338 rfl ?_
        refine gx_get dX6_workOut_339 gf_X6_50 (gs_g6 R hm) (v := .ref (A 35 0 0)) (rfl) ?_
        refine gx_iload_n dX6_workOut_342 rfl ?_
        refine gx_iload_n dX6_workOut_343 rfl ?_
        refine gx_invS dX6_workOut_344 wm_X6_105 gt_X6_at ws_X6_at (As := [.int (nI g), .int (nI o)]) (rest := [.ref (A 35 0 0), .int (σ.2.1 113 (σ.1 105 o 0) 0), .int (nI (σ.1 105 o 0)), .ref (A 33 0 0)]) rfl rfl (Nat.le_of_ble_eq_true rfl) (by decide) (cc_X6_atE (g := g) (o := o) (rfl) (rfl)) (fun r1 h q1 => ?_)
        obtain ⟨rfl, rfl⟩ := q1
        show gx_Ev _ _ _ _ _ [.int (nI (40 * g + o)), .ref (A 35 0 0), .int (σ.2.1 113 (σ.1 105 o 0) 0), .int (nI (σ.1 105 o 0)), .ref (A 33 0 0)] _ _
        refine gq_35 dX6_workOut_347 R hm (q := 40 * g + o) (rfl) (by first | omega | (have := gv_a V o; omega) | (have := gv_bk V o; omega) | (have := gv_cl V o; omega)) (v := σ.2.1 115 (40 * g + o) 0) (rfl) ?_
        refine gx_icmp_ge dX6_workOut_348 (tgt := 364) (by decide) (fun ht => ?_) (fun ht => ?_)
        · refine gx_aload_n dX6_workOut_364 rfl ?_
          refine gx_get dX6_workOut_365 gf_X6_44 (gs_g6 R hm) (v := .ref (A 33 0 0)) (rfl) ?_
          refine gx_iload dX6_workOut_368 rfl ?_
          refine gq_33 dX6_workOut_370 R hm (q := σ.1 105 o 0) (rfl) (by first | omega | (have := gv_a V o; omega) | (have := gv_bk V o; omega) | (have := gv_cl V o; omega)) (v := σ.2.1 113 (σ.1 105 o 0) 0) (rfl) ?_
          refine ga_I113 (σ := (gs_i (gs_i (gs_i σ 118 (40 * g + o) 0 1) 111 o 0 1) 112 o 0 an)) hm dX6_workOut_371 R (q := σ.1 105 o 0) (v := σ.2.1 113 (σ.1 105 o 0) 0) (rfl) (by first | omega | (have := gv_a V o; omega) | (have := gv_bk V o; omega) | (have := gv_cl V o; omega)) (fun h R hs3 => ?_)
          refine gx_return dX6_workOut_372 ?_
          have hB : ¬ (σ.1 108 o 0 % σ.1 100 0 0 = g ∧ ¬ σ.2.1 106 o 0 = 0) := fun z => hb z.1
          have e8 : gs_mg (σ.2.1 113 (σ.1 105 o 0) 0) (σ.2.1 115 (40 * g + o) 0) = σ.2.1 113 (σ.1 105 o 0) 0 := by simp [gs_mg, ht]
          exact ⟨rfl, by simp only [sm_wt]; rw [if_neg hB, if_neg ha, if_pos hn, e8]; exact R, ((((gs_sm.rfl.trans hs0).trans hs1).trans hs2).trans hs3), rfl⟩
        · refine gx_aload_n dX6_workOut_351 rfl ?_
          refine gx_get dX6_workOut_352 gf_X6_50 (gs_g6 R hm) (v := .ref (A 35 0 0)) (rfl) ?_
          refine gx_iload_n dX6_workOut_355 rfl ?_
          refine gx_iload_n dX6_workOut_356 rfl ?_
          refine gx_invS dX6_workOut_357 wm_X6_105 gt_X6_at ws_X6_at (As := [.int (nI g), .int (nI o)]) (rest := [.ref (A 35 0 0), .int (nI (σ.1 105 o 0)), .ref (A 33 0 0)]) rfl rfl (Nat.le_of_ble_eq_true rfl) (by decide) (cc_X6_atE (g := g) (o := o) (rfl) (rfl)) (fun r1 h q1 => ?_)
          obtain ⟨rfl, rfl⟩ := q1
          show gx_Ev _ _ _ _ _ [.int (nI (40 * g + o)), .ref (A 35 0 0), .int (nI (σ.1 105 o 0)), .ref (A 33 0 0)] _ _
          refine gq_35 dX6_workOut_360 R hm (q := 40 * g + o) (rfl) (by first | omega | (have := gv_a V o; omega) | (have := gv_bk V o; omega) | (have := gv_cl V o; omega)) (v := σ.2.1 115 (40 * g + o) 0) (rfl) ?_
          refine gx_goto dX6_workOut_361 (tgt := 371) (by decide) ?_
          refine ga_I113 (σ := (gs_i (gs_i (gs_i σ 118 (40 * g + o) 0 1) 111 o 0 1) 112 o 0 an)) hm dX6_workOut_371 R (q := σ.1 105 o 0) (v := σ.2.1 115 (40 * g + o) 0) (rfl) (by first | omega | (have := gv_a V o; omega) | (have := gv_bk V o; omega) | (have := gv_cl V o; omega)) (fun h R hs3 => ?_)
          refine gx_return dX6_workOut_372 ?_
          have hB : ¬ (σ.1 108 o 0 % σ.1 100 0 0 = g ∧ ¬ σ.2.1 106 o 0 = 0) := fun z => hb z.1
          have e8 : gs_mg (σ.2.1 113 (σ.1 105 o 0) 0) (σ.2.1 115 (40 * g + o) 0) = σ.2.1 115 (40 * g + o) 0 := by simp [gs_mg, ht]
          exact ⟨rfl, by simp only [sm_wt]; rw [if_neg hB, if_neg ha, if_pos hn, e8]; exact R, ((((gs_sm.rfl.trans hs0).trans hs1).trans hs2).trans hs3), rfl⟩
    · have ha := (nI_eq (by have := gv_n2 V; have := gv_n4 V; have := Nat.mod_lt (σ.1 107 o 0) (show 0 < σ.1 100 0 0 by omega); omega) (by omega)).mp ha
      refine gx_aload_n dX6_workOut_274 rfl ?_
      refine gx_get dX6_workOut_275 gf_X6_17 (gs_g6 R hm) (v := .ref (A 23 0 0)) (rfl) ?_
      refine gx_iload_n dX6_workOut_278 rfl ?_
      refine gx_iload dX6_workOut_279 rfl ?_
      refine ga_I103 (σ := σ) hm dX6_workOut_281 R (q := σ.1 107 o 0) (v := va) (rfl) (by first | omega | (have := gv_a V o; omega) | (have := gv_bk V o; omega) | (have := gv_cl V o; omega)) (fun h R hs0 => ?_)
      refine gx_aload_n dX6_workOut_282 rfl ?_
      refine gx_get dX6_workOut_283 gf_X6_59 (gs_g6 R hm) (v := .ref (A 38 0 0)) (rfl) ?_
      refine gx_iload_n dX6_workOut_286 rfl ?_
      refine gx_iload_n dX6_workOut_287 rfl ?_
      refine gx_invS dX6_workOut_288 wm_X6_105 gt_X6_at ws_X6_at (As := [.int (nI g), .int (nI o)]) (rest := [.ref (A 38 0 0)]) rfl rfl (Nat.le_of_ble_eq_true rfl) (by decide) (cc_X6_atE (g := g) (o := o) (rfl) (rfl)) (fun r1 h q1 => ?_)
      obtain ⟨rfl, rfl⟩ := q1
      show gx_Ev _ _ _ _ _ [.int (nI (40 * g + o)), .ref (A 38 0 0)] _ _
      refine gx_iconst dX6_workOut_291 (v := 1) (by decide) ?_
      refine ga_I118 (σ := (gs_i σ 103 (σ.1 107 o 0) 0 va)) hm dX6_workOut_292 R (by first | exact Or.inl rfl | exact Or.inr rfl) (q := 40 * g + o) (v := 1) (rfl) (by first | omega | (have := gv_a V o; omega) | (have := gv_bk V o; omega) | (have := gv_cl V o; omega)) (fun h R hs1 => ?_)
      refine gx_aload_n dX6_workOut_293 rfl ?_
      refine gx_get dX6_workOut_294 gf_X6_38 (gs_g6 R hm) (v := .ref (A 31 0 0)) (rfl) ?_
      refine gx_iload_n dX6_workOut_297 rfl ?_
      refine gq_31 dX6_workOut_298 R hm (q := o) (rfl) (by first | omega | (have := gv_a V o; omega) | (have := gv_bk V o; omega) | (have := gv_cl V o; omega)) (v := σ.2.1 111 o 0) (rfl) ?_
      refine gx_if_ne dX6_workOut_299 (tgt := 372) (by decide) (fun hn => ?_) (fun hn => ?_)
      · refine gx_return dX6_workOut_372 ?_
        have hB : ¬ (σ.1 108 o 0 % σ.1 100 0 0 = g ∧ ¬ σ.2.1 106 o 0 = 0) := fun z => hb z.1
        exact ⟨rfl, by simp only [sm_wt]; rw [if_neg hB, if_pos ha, if_neg hn]; exact R, ((gs_sm.rfl.trans hs0).trans hs1), rfl⟩
      · refine gx_aload_n dX6_workOut_302 rfl ?_
        refine gx_get dX6_workOut_303 gf_X6_38 (gs_g6 R hm) (v := .ref (A 31 0 0)) (rfl) ?_
        refine gx_iload_n dX6_workOut_306 rfl ?_
        refine gx_iconst dX6_workOut_307 (v := 1) (by decide) ?_
        refine ga_I111 (σ := (gs_i (gs_i σ 103 (σ.1 107 o 0) 0 va) 118 (40 * g + o) 0 1)) hm dX6_workOut_308 R (by first | exact Or.inl rfl | exact Or.inr rfl) (q := o) (v := 1) (rfl) (by first | omega | (have := gv_a V o; omega) | (have := gv_bk V o; omega) | (have := gv_cl V o; omega)) (fun h R hs2 => ?_)
        refine gx_aload_n dX6_workOut_309 rfl ?_
        refine gx_get dX6_workOut_310 gf_X6_41 (gs_g6 R hm) (v := .ref (A 32 0 0)) (rfl) ?_
        refine gx_iload_n dX6_workOut_313 rfl ?_
        refine gx_iload dX6_workOut_314 rfl ?_
        refine ga_I112 (σ := (gs_i (gs_i (gs_i σ 103 (σ.1 107 o 0) 0 va) 118 (40 * g + o) 0 1) 111 o 0 1)) hm dX6_workOut_316 R (q := o) (v := an) (rfl) (by first | omega | (have := gv_a V o; omega) | (have := gv_bk V o; omega) | (have := gv_cl V o; omega)) (fun h R hs3 => ?_)
        refine gx_aload_n dX6_workOut_317 rfl ?_
        refine gx_get dX6_workOut_318 gf_X6_20 (gs_g6 R hm) (v := .ref (A 25 0 0)) (rfl) ?_
        refine gx_iload_n dX6_workOut_321 rfl ?_
        refine gq_25 dX6_workOut_322 R hm (q := o) (rfl) (by first | omega | (have := gv_a V o; omega) | (have := gv_bk V o; omega) | (have := gv_cl V o; omega)) (v := nI (σ.1 105 o 0)) (rfl) ?_
        refine gx_istore dX6_workOut_323 (by decide) rfl (L' := [some (.ref (A 6 0 0)), some (.int (nI g)), some (.int (nI o)), some (.int (nI (σ.1 107 o 0))), some (.int (nI (σ.1 108 o 0))), some (.int va), some (.int vb), some (.int an), some (.int (nI (σ.1 105 o 0)))]) rfl ?_
        refine gx_aload_n dX6_workOut_325 rfl ?_
        refine gx_get dX6_workOut_326 gf_X6_44 (gs_g6 R hm) (v := .ref (A 33 0 0)) (rfl) ?_
        refine gx_iload dX6_workOut_329 rfl ?_
        refine gx_aload_n dX6_workOut_331 rfl ?_
        refine gx_get dX6_workOut_332 gf_X6_44 (gs_g6 R hm) (v := .ref (A 33 0 0)) (rfl) ?_
        refine gx_iload dX6_workOut_335 rfl ?_
        refine gq_33 dX6_workOut_337 R hm (q := σ.1 105 o 0) (rfl) (by first | omega | (have := gv_a V o; omega) | (have := gv_bk V o; omega) | (have := gv_cl V o; omega)) (v := σ.2.1 113 (σ.1 105 o 0) 0) (rfl) ?_
        refine gx_aload_n dX6_workOut_338 rfl ?_
        refine gx_get dX6_workOut_339 gf_X6_50 (gs_g6 R hm) (v := .ref (A 35 0 0)) (rfl) ?_
        refine gx_iload_n dX6_workOut_342 rfl ?_
        refine gx_iload_n dX6_workOut_343 rfl ?_
        refine gx_invS dX6_workOut_344 wm_X6_105 gt_X6_at ws_X6_at (As := [.int (nI g), .int (nI o)]) (rest := [.ref (A 35 0 0), .int (σ.2.1 113 (σ.1 105 o 0) 0), .int (nI (σ.1 105 o 0)), .ref (A 33 0 0)]) rfl rfl (Nat.le_of_ble_eq_true rfl) (by decide) (cc_X6_atE (g := g) (o := o) (rfl) (rfl)) (fun r1 h q1 => ?_)
        obtain ⟨rfl, rfl⟩ := q1
        show gx_Ev _ _ _ _ _ [.int (nI (40 * g + o)), .ref (A 35 0 0), .int (σ.2.1 113 (σ.1 105 o 0) 0), .int (nI (σ.1 105 o 0)), .ref (A 33 0 0)] _ _
        refine gq_35 dX6_workOut_347 R hm (q := 40 * g + o) (rfl) (by first | omega | (have := gv_a V o; omega) | (have := gv_bk V o; omega) | (have := gv_cl V o; omega)) (v := σ.2.1 115 (40 * g + o) 0) (rfl) ?_
        refine gx_icmp_ge dX6_workOut_348 (tgt := 364) (by decide) (fun ht => ?_) (fun ht => ?_)
        · refine gx_aload_n dX6_workOut_364 rfl ?_
          refine gx_get dX6_workOut_365 gf_X6_44 (gs_g6 R hm) (v := .ref (A 33 0 0)) (rfl) ?_
          refine gx_iload dX6_workOut_368 rfl ?_
          refine gq_33 dX6_workOut_370 R hm (q := σ.1 105 o 0) (rfl) (by first | omega | (have := gv_a V o; omega) | (have := gv_bk V o; omega) | (have := gv_cl V o; omega)) (v := σ.2.1 113 (σ.1 105 o 0) 0) (rfl) ?_
          refine ga_I113 (σ := (gs_i (gs_i (gs_i (gs_i σ 103 (σ.1 107 o 0) 0 va) 118 (40 * g + o) 0 1) 111 o 0 1) 112 o 0 an)) hm dX6_workOut_371 R (q := σ.1 105 o 0) (v := σ.2.1 113 (σ.1 105 o 0) 0) (rfl) (by first | omega | (have := gv_a V o; omega) | (have := gv_bk V o; omega) | (have := gv_cl V o; omega)) (fun h R hs4 => ?_)
          refine gx_return dX6_workOut_372 ?_
          have hB : ¬ (σ.1 108 o 0 % σ.1 100 0 0 = g ∧ ¬ σ.2.1 106 o 0 = 0) := fun z => hb z.1
          have e8 : gs_mg (σ.2.1 113 (σ.1 105 o 0) 0) (σ.2.1 115 (40 * g + o) 0) = σ.2.1 113 (σ.1 105 o 0) 0 := by simp [gs_mg, ht]
          exact ⟨rfl, by simp only [sm_wt]; rw [if_neg hB, if_pos ha, if_pos hn, e8]; exact R, (((((gs_sm.rfl.trans hs0).trans hs1).trans hs2).trans hs3).trans hs4), rfl⟩
        · refine gx_aload_n dX6_workOut_351 rfl ?_
          refine gx_get dX6_workOut_352 gf_X6_50 (gs_g6 R hm) (v := .ref (A 35 0 0)) (rfl) ?_
          refine gx_iload_n dX6_workOut_355 rfl ?_
          refine gx_iload_n dX6_workOut_356 rfl ?_
          refine gx_invS dX6_workOut_357 wm_X6_105 gt_X6_at ws_X6_at (As := [.int (nI g), .int (nI o)]) (rest := [.ref (A 35 0 0), .int (nI (σ.1 105 o 0)), .ref (A 33 0 0)]) rfl rfl (Nat.le_of_ble_eq_true rfl) (by decide) (cc_X6_atE (g := g) (o := o) (rfl) (rfl)) (fun r1 h q1 => ?_)
          obtain ⟨rfl, rfl⟩ := q1
          show gx_Ev _ _ _ _ _ [.int (nI (40 * g + o)), .ref (A 35 0 0), .int (nI (σ.1 105 o 0)), .ref (A 33 0 0)] _ _
          refine gq_35 dX6_workOut_360 R hm (q := 40 * g + o) (rfl) (by first | omega | (have := gv_a V o; omega) | (have := gv_bk V o; omega) | (have := gv_cl V o; omega)) (v := σ.2.1 115 (40 * g + o) 0) (rfl) ?_
          refine gx_goto dX6_workOut_361 (tgt := 371) (by decide) ?_
          refine ga_I113 (σ := (gs_i (gs_i (gs_i (gs_i σ 103 (σ.1 107 o 0) 0 va) 118 (40 * g + o) 0 1) 111 o 0 1) 112 o 0 an)) hm dX6_workOut_371 R (q := σ.1 105 o 0) (v := σ.2.1 115 (40 * g + o) 0) (rfl) (by first | omega | (have := gv_a V o; omega) | (have := gv_bk V o; omega) | (have := gv_cl V o; omega)) (fun h R hs4 => ?_)
          refine gx_return dX6_workOut_372 ?_
          have hB : ¬ (σ.1 108 o 0 % σ.1 100 0 0 = g ∧ ¬ σ.2.1 106 o 0 = 0) := fun z => hb z.1
          have e8 : gs_mg (σ.2.1 113 (σ.1 105 o 0) 0) (σ.2.1 115 (40 * g + o) 0) = σ.2.1 115 (40 * g + o) 0 := by simp [gs_mg, ht]
          exact ⟨rfl, by simp only [sm_wt]; rw [if_neg hB, if_pos ha, if_pos hn, e8]; exact R, (((((gs_sm.rfl.trans hs0).trans hs1).trans hs2).trans hs3).trans hs4), rfl⟩
  · have hb := (nI_eq (by have := gv_n2 V; have := gv_n4 V; have := Nat.mod_lt (σ.1 108 o 0) (show 0 < σ.1 100 0 0 by omega); omega) (by omega)).mp hb
    refine gx_aload_n dX6_workOut_246 rfl ?_
    refine gx_get dX6_workOut_247 gf_X6_23 (gs_g6 R hm) (v := .ref (A 26 0 0)) (rfl) ?_
    refine gx_iload_n dX6_workOut_250 rfl ?_
    refine gq_26 dX6_workOut_251 R hm (q := o) (rfl) (by first | omega | (have := gv_a V o; omega) | (have := gv_bk V o; omega) | (have := gv_cl V o; omega)) (v := σ.2.1 106 o 0) (rfl) ?_
    refine gx_if_eq dX6_workOut_252 (tgt := 264) (by decide) (fun hk => ?_) (fun hk => ?_)
    · refine gx_iload_n dX6_workOut_264 rfl ?_
      refine gx_aload_n dX6_workOut_265 rfl ?_
      refine gx_get dX6_workOut_266 gf_X6_101 (gs_g6 R hm) (v := .int (nI (σ.1 100 0 0))) (rfl) ?_
      refine gx_irem dX6_workOut_269 (nI_ne0 (by have := gv_n2 V; omega) (by have := gv_n4 V; omega)) ?_
      rw [show ((nI (σ.1 107 o 0)) - (nI (σ.1 107 o 0)) / (nI (σ.1 100 0 0)) * (nI (σ.1 100 0 0)) : Int32) = nI (σ.1 107 o 0 % σ.1 100 0 0) from pk_rem (by have := gv_a V o; have := gv_bk V o; omega) (by have := gv_n2 V; omega) (by have := gv_n4 V; omega)]
      refine gx_iload_n dX6_workOut_270 rfl ?_
      refine gx_icmp_ne dX6_workOut_271 (tgt := 282) (by decide) (fun ha => ?_) (fun ha => ?_)
      · have ha : ¬ σ.1 107 o 0 % σ.1 100 0 0 = g := fun z => ha (congrArg nI z)
        refine gx_aload_n dX6_workOut_282 rfl ?_
        refine gx_get dX6_workOut_283 gf_X6_59 (gs_g6 R hm) (v := .ref (A 38 0 0)) (rfl) ?_
        refine gx_iload_n dX6_workOut_286 rfl ?_
        refine gx_iload_n dX6_workOut_287 rfl ?_
        refine gx_invS dX6_workOut_288 wm_X6_105 gt_X6_at ws_X6_at (As := [.int (nI g), .int (nI o)]) (rest := [.ref (A 38 0 0)]) rfl rfl (Nat.le_of_ble_eq_true rfl) (by decide) (cc_X6_atE (g := g) (o := o) (rfl) (rfl)) (fun r1 h q1 => ?_)
        obtain ⟨rfl, rfl⟩ := q1
        show gx_Ev _ _ _ _ _ [.int (nI (40 * g + o)), .ref (A 38 0 0)] _ _
        refine gx_iconst dX6_workOut_291 (v := 1) (by decide) ?_
        refine ga_I118 (σ := σ) hm dX6_workOut_292 R (by first | exact Or.inl rfl | exact Or.inr rfl) (q := 40 * g + o) (v := 1) (rfl) (by first | omega | (have := gv_a V o; omega) | (have := gv_bk V o; omega) | (have := gv_cl V o; omega)) (fun h R hs0 => ?_)
        refine gx_aload_n dX6_workOut_293 rfl ?_
        refine gx_get dX6_workOut_294 gf_X6_38 (gs_g6 R hm) (v := .ref (A 31 0 0)) (rfl) ?_
        refine gx_iload_n dX6_workOut_297 rfl ?_
        refine gq_31 dX6_workOut_298 R hm (q := o) (rfl) (by first | omega | (have := gv_a V o; omega) | (have := gv_bk V o; omega) | (have := gv_cl V o; omega)) (v := σ.2.1 111 o 0) (rfl) ?_
        refine gx_if_ne dX6_workOut_299 (tgt := 372) (by decide) (fun hn => ?_) (fun hn => ?_)
        · refine gx_return dX6_workOut_372 ?_
          have hB : ¬ (σ.1 108 o 0 % σ.1 100 0 0 = g ∧ ¬ σ.2.1 106 o 0 = 0) := fun z => z.2 hk
          exact ⟨rfl, by simp only [sm_wt]; rw [if_neg hB, if_neg ha, if_neg hn]; exact R, (gs_sm.rfl.trans hs0), rfl⟩
        · refine gx_aload_n dX6_workOut_302 rfl ?_
          refine gx_get dX6_workOut_303 gf_X6_38 (gs_g6 R hm) (v := .ref (A 31 0 0)) (rfl) ?_
          refine gx_iload_n dX6_workOut_306 rfl ?_
          refine gx_iconst dX6_workOut_307 (v := 1) (by decide) ?_
          refine ga_I111 (σ := (gs_i σ 118 (40 * g + o) 0 1)) hm dX6_workOut_308 R (by first | exact Or.inl rfl | exact Or.inr rfl) (q := o) (v := 1) (rfl) (by first | omega | (have := gv_a V o; omega) | (have := gv_bk V o; omega) | (have := gv_cl V o; omega)) (fun h R hs1 => ?_)
          refine gx_aload_n dX6_workOut_309 rfl ?_
          refine gx_get dX6_workOut_310 gf_X6_41 (gs_g6 R hm) (v := .ref (A 32 0 0)) (rfl) ?_
          refine gx_iload_n dX6_workOut_313 rfl ?_
          refine gx_iload dX6_workOut_314 rfl ?_
          refine ga_I112 (σ := (gs_i (gs_i σ 118 (40 * g + o) 0 1) 111 o 0 1)) hm dX6_workOut_316 R (q := o) (v := an) (rfl) (by first | omega | (have := gv_a V o; omega) | (have := gv_bk V o; omega) | (have := gv_cl V o; omega)) (fun h R hs2 => ?_)
          refine gx_aload_n dX6_workOut_317 rfl ?_
          refine gx_get dX6_workOut_318 gf_X6_20 (gs_g6 R hm) (v := .ref (A 25 0 0)) (rfl) ?_
          refine gx_iload_n dX6_workOut_321 rfl ?_
          refine gq_25 dX6_workOut_322 R hm (q := o) (rfl) (by first | omega | (have := gv_a V o; omega) | (have := gv_bk V o; omega) | (have := gv_cl V o; omega)) (v := nI (σ.1 105 o 0)) (rfl) ?_
          refine gx_istore dX6_workOut_323 (by decide) rfl (L' := [some (.ref (A 6 0 0)), some (.int (nI g)), some (.int (nI o)), some (.int (nI (σ.1 107 o 0))), some (.int (nI (σ.1 108 o 0))), some (.int va), some (.int vb), some (.int an), some (.int (nI (σ.1 105 o 0)))]) rfl ?_
          refine gx_aload_n dX6_workOut_325 rfl ?_
          refine gx_get dX6_workOut_326 gf_X6_44 (gs_g6 R hm) (v := .ref (A 33 0 0)) (rfl) ?_
          refine gx_iload dX6_workOut_329 rfl ?_
          refine gx_aload_n dX6_workOut_331 rfl ?_
          refine gx_get dX6_workOut_332 gf_X6_44 (gs_g6 R hm) (v := .ref (A 33 0 0)) (rfl) ?_
          refine gx_iload dX6_workOut_335 rfl ?_
          refine gq_33 dX6_workOut_337 R hm (q := σ.1 105 o 0) (rfl) (by first | omega | (have := gv_a V o; omega) | (have := gv_bk V o; omega) | (have := gv_cl V o; omega)) (v := σ.2.1 113 (σ.1 105 o 0) 0) (rfl) ?_
          refine gx_aload_n dX6_workOut_338 rfl ?_
          refine gx_get dX6_workOut_339 gf_X6_50 (gs_g6 R hm) (v := .ref (A 35 0 0)) (rfl) ?_
          refine gx_iload_n dX6_workOut_342 rfl ?_
          refine gx_iload_n dX6_workOut_343 rfl ?_
          refine gx_invS dX6_workOut_344 wm_X6_105 gt_X6_at ws_X6_at (As := [.int (nI g), .int (nI o)]) (rest := [.ref (A 35 0 0), .int (σ.2.1 113 (σ.1 105 o 0) 0), .int (nI (σ.1 105 o 0)), .ref (A 33 0 0)]) rfl rfl (Nat.le_of_ble_eq_true rfl) (by decide) (cc_X6_atE (g := g) (o := o) (rfl) (rfl)) (fun r1 h q1 => ?_)
          obtain ⟨rfl, rfl⟩ := q1
          show gx_Ev _ _ _ _ _ [.int (nI (40 * g + o)), .ref (A 35 0 0), .int (σ.2.1 113 (σ.1 105 o 0) 0), .int (nI (σ.1 105 o 0)), .ref (A 33 0 0)] _ _
          refine gq_35 dX6_workOut_347 R hm (q := 40 * g + o) (rfl) (by first | omega | (have := gv_a V o; omega) | (have := gv_bk V o; omega) | (have := gv_cl V o; omega)) (v := σ.2.1 115 (40 * g + o) 0) (rfl) ?_
          refine gx_icmp_ge dX6_workOut_348 (tgt := 364) (by decide) (fun ht => ?_) (fun ht => ?_)
          · refine gx_aload_n dX6_workOut_364 rfl ?_
            refine gx_get dX6_workOut_365 gf_X6_44 (gs_g6 R hm) (v := .ref (A 33 0 0)) (rfl) ?_
            refine gx_iload dX6_workOut_368 rfl ?_
            refine gq_33 dX6_workOut_370 R hm (q := σ.1 105 o 0) (rfl) (by first | omega | (have := gv_a V o; omega) | (have := gv_bk V o; omega) | (have := gv_cl V o; omega)) (v := σ.2.1 113 (σ.1 105 o 0) 0) (rfl) ?_
            refine ga_I113 (σ := (gs_i (gs_i (gs_i σ 118 (40 * g + o) 0 1) 111 o 0 1) 112 o 0 an)) hm dX6_workOut_371 R (q := σ.1 105 o 0) (v := σ.2.1 113 (σ.1 105 o 0) 0) (rfl) (by first | omega | (have := gv_a V o; omega) | (have := gv_bk V o; omega) | (have := gv_cl V o; omega)) (fun h R hs3 => ?_)
            refine gx_return dX6_workOut_372 ?_
            have hB : ¬ (σ.1 108 o 0 % σ.1 100 0 0 = g ∧ ¬ σ.2.1 106 o 0 = 0) := fun z => z.2 hk
            have e8 : gs_mg (σ.2.1 113 (σ.1 105 o 0) 0) (σ.2.1 115 (40 * g + o) 0) = σ.2.1 113 (σ.1 105 o 0) 0 := by simp [gs_mg, ht]
            exact ⟨rfl, by simp only [sm_wt]; rw [if_neg hB, if_neg ha, if_pos hn, e8]; exact R, ((((gs_sm.rfl.trans hs0).trans hs1).trans hs2).trans hs3), rfl⟩
          · refine gx_aload_n dX6_workOut_351 rfl ?_
            refine gx_get dX6_workOut_352 gf_X6_50 (gs_g6 R hm) (v := .ref (A 35 0 0)) (rfl) ?_
            refine gx_iload_n dX6_workOut_355 rfl ?_
            refine gx_iload_n dX6_workOut_356 rfl ?_
            refine gx_invS dX6_workOut_357 wm_X6_105 gt_X6_at ws_X6_at (As := [.int (nI g), .int (nI o)]) (rest := [.ref (A 35 0 0), .int (nI (σ.1 105 o 0)), .ref (A 33 0 0)]) rfl rfl (Nat.le_of_ble_eq_true rfl) (by decide) (cc_X6_atE (g := g) (o := o) (rfl) (rfl)) (fun r1 h q1 => ?_)
            obtain ⟨rfl, rfl⟩ := q1
            show gx_Ev _ _ _ _ _ [.int (nI (40 * g + o)), .ref (A 35 0 0), .int (nI (σ.1 105 o 0)), .ref (A 33 0 0)] _ _
            refine gq_35 dX6_workOut_360 R hm (q := 40 * g + o) (rfl) (by first | omega | (have := gv_a V o; omega) | (have := gv_bk V o; omega) | (have := gv_cl V o; omega)) (v := σ.2.1 115 (40 * g + o) 0) (rfl) ?_
            refine gx_goto dX6_workOut_361 (tgt := 371) (by decide) ?_
            refine ga_I113 (σ := (gs_i (gs_i (gs_i σ 118 (40 * g + o) 0 1) 111 o 0 1) 112 o 0 an)) hm dX6_workOut_371 R (q := σ.1 105 o 0) (v := σ.2.1 115 (40 * g + o) 0) (rfl) (by first | omega | (have := gv_a V o; omega) | (have := gv_bk V o; omega) | (have := gv_cl V o; omega)) (fun h R hs3 => ?_)
            refine gx_return dX6_workOut_372 ?_
            have hB : ¬ (σ.1 108 o 0 % σ.1 100 0 0 = g ∧ ¬ σ.2.1 106 o 0 = 0) := fun z => z.2 hk
            have e8 : gs_mg (σ.2.1 113 (σ.1 105 o 0) 0) (σ.2.1 115 (40 * g + o) 0) = σ.2.1 115 (40 * g + o) 0 := by simp [gs_mg, ht]
            exact ⟨rfl, by simp only [sm_wt]; rw [if_neg hB, if_neg ha, if_pos hn, e8]; exact R, ((((gs_sm.rfl.trans hs0).trans hs1).trans hs2).trans hs3), rfl⟩
      · have ha := (nI_eq (by have := gv_n2 V; have := gv_n4 V; have := Nat.mod_lt (σ.1 107 o 0) (show 0 < σ.1 100 0 0 by omega); omega) (by omega)).mp ha
        refine gx_aload_n dX6_workOut_274 rfl ?_
        refine gx_get dX6_workOut_275 gf_X6_17 (gs_g6 R hm) (v := .ref (A 23 0 0)) (rfl) ?_
        refine gx_iload_n dX6_workOut_278 rfl ?_
        refine gx_iload dX6_workOut_279 rfl ?_
        refine ga_I103 (σ := σ) hm dX6_workOut_281 R (q := σ.1 107 o 0) (v := va) (rfl) (by first | omega | (have := gv_a V o; omega) | (have := gv_bk V o; omega) | (have := gv_cl V o; omega)) (fun h R hs0 => ?_)
        refine gx_aload_n dX6_workOut_282 rfl ?_
        refine gx_get dX6_workOut_283 gf_X6_59 (gs_g6 R hm) (v := .ref (A 38 0 0)) (rfl) ?_
        refine gx_iload_n dX6_workOut_286 rfl ?_
        refine gx_iload_n dX6_workOut_287 rfl ?_
        refine gx_invS dX6_workOut_288 wm_X6_105 gt_X6_at ws_X6_at (As := [.int (nI g), .int (nI o)]) (rest := [.ref (A 38 0 0)]) rfl rfl (Nat.le_of_ble_eq_true rfl) (by decide) (cc_X6_atE (g := g) (o := o) (rfl) (rfl)) (fun r1 h q1 => ?_)
        obtain ⟨rfl, rfl⟩ := q1
        show gx_Ev _ _ _ _ _ [.int (nI (40 * g + o)), .ref (A 38 0 0)] _ _
        refine gx_iconst dX6_workOut_291 (v := 1) (by decide) ?_
        refine ga_I118 (σ := (gs_i σ 103 (σ.1 107 o 0) 0 va)) hm dX6_workOut_292 R (by first | exact Or.inl rfl | exact Or.inr rfl) (q := 40 * g + o) (v := 1) (rfl) (by first | omega | (have := gv_a V o; omega) | (have := gv_bk V o; omega) | (have := gv_cl V o; omega)) (fun h R hs1 => ?_)
        refine gx_aload_n dX6_workOut_293 rfl ?_
        refine gx_get dX6_workOut_294 gf_X6_38 (gs_g6 R hm) (v := .ref (A 31 0 0)) (rfl) ?_
        refine gx_iload_n dX6_workOut_297 rfl ?_
        refine gq_31 dX6_workOut_298 R hm (q := o) (rfl) (by first | omega | (have := gv_a V o; omega) | (have := gv_bk V o; omega) | (have := gv_cl V o; omega)) (v := σ.2.1 111 o 0) (rfl) ?_
        refine gx_if_ne dX6_workOut_299 (tgt := 372) (by decide) (fun hn => ?_) (fun hn => ?_)
        · refine gx_return dX6_workOut_372 ?_
          have hB : ¬ (σ.1 108 o 0 % σ.1 100 0 0 = g ∧ ¬ σ.2.1 106 o 0 = 0) := fun z => z.2 hk
          exact ⟨rfl, by simp only [sm_wt]; rw [if_neg hB, if_pos ha, if_neg hn]; exact R, ((gs_sm.rfl.trans hs0).trans hs1), rfl⟩
        · refine gx_aload_n dX6_workOut_302 rfl ?_
          refine gx_get dX6_workOut_303 gf_X6_38 (gs_g6 R hm) (v := .ref (A 31 0 0)) (rfl) ?_
          refine gx_iload_n dX6_workOut_306 rfl ?_
          refine gx_iconst dX6_workOut_307 (v := 1) (by decide) ?_
          refine ga_I111 (σ := (gs_i (gs_i σ 103 (σ.1 107 o 0) 0 va) 118 (40 * g + o) 0 1)) hm dX6_workOut_308 R (by first | exact Or.inl rfl | exact Or.inr rfl) (q := o) (v := 1) (rfl) (by first | omega | (have := gv_a V o; omega) | (have := gv_bk V o; omega) | (have := gv_cl V o; omega)) (fun h R hs2 => ?_)
          refine gx_aload_n dX6_workOut_309 rfl ?_
          refine gx_get dX6_workOut_310 gf_X6_41 (gs_g6 R hm) (v := .ref (A 32 0 0)) (rfl) ?_
          refine gx_iload_n dX6_workOut_313 rfl ?_
          refine gx_iload dX6_workOut_314 rfl ?_
          refine ga_I112 (σ := (gs_i (gs_i (gs_i σ 103 (σ.1 107 o 0) 0 va) 118 (40 * g + o) 0 1) 111 o 0 1)) hm dX6_workOut_316 R (q := o) (v := an) (rfl) (by first | omega | (have := gv_a V o; omega) | (have := gv_bk V o; omega) | (have := gv_cl V o; omega)) (fun h R hs3 => ?_)
          refine gx_aload_n dX6_workOut_317 rfl ?_
          refine gx_get dX6_workOut_318 gf_X6_20 (gs_g6 R hm) (v := .ref (A 25 0 0)) (rfl) ?_
          refine gx_iload_n dX6_workOut_321 rfl ?_
          refine gq_25 dX6_workOut_322 R hm (q := o) (rfl) (by first | omega | (have := gv_a V o; omega) | (have := gv_bk V o; omega) | (have := gv_cl V o; omega)) (v := nI (σ.1 105 o 0)) (rfl) ?_
          refine gx_istore dX6_workOut_323 (by decide) rfl (L' := [some (.ref (A 6 0 0)), some (.int (nI g)), some (.int (nI o)), some (.int (nI (σ.1 107 o 0))), some (.int (nI (σ.1 108 o 0))), some (.int va), some (.int vb), some (.int an), some (.int (nI (σ.1 105 o 0)))]) rfl ?_
          refine gx_aload_n dX6_workOut_325 rfl ?_
          refine gx_get dX6_workOut_326 gf_X6_44 (gs_g6 R hm) (v := .ref (A 33 0 0)) (rfl) ?_
          refine gx_iload dX6_workOut_329 rfl ?_
          refine gx_aload_n dX6_workOut_331 rfl ?_
          refine gx_get dX6_workOut_332 gf_X6_44 (gs_g6 R hm) (v := .ref (A 33 0 0)) (rfl) ?_
          refine gx_iload dX6_workOut_335 rfl ?_
          refine gq_33 dX6_workOut_337 R hm (q := σ.1 105 o 0) (rfl) (by first | omega | (have := gv_a V o; omega) | (have := gv_bk V o; omega) | (have := gv_cl V o; omega)) (v := σ.2.1 113 (σ.1 105 o 0) 0) (rfl) ?_
          refine gx_aload_n dX6_workOut_338 rfl ?_
          refine gx_get dX6_workOut_339 gf_X6_50 (gs_g6 R hm) (v := .ref (A 35 0 0)) (rfl) ?_
          refine gx_iload_n dX6_workOut_342 rfl ?_
          refine gx_iload_n dX6_workOut_343 rfl ?_
          refine gx_invS dX6_workOut_344 wm_X6_105 gt_X6_at ws_X6_at (As := [.int (nI g), .int (nI o)]) (rest := [.ref (A 35 0 0), .int (σ.2.1 113 (σ.1 105 o 0) 0), .int (nI (σ.1 105 o 0)), .ref (A 33 0 0)]) rfl rfl (Nat.le_of_ble_eq_true rfl) (by decide) (cc_X6_atE (g := g) (o := o) (rfl) (rfl)) (fun r1 h q1 => ?_)
          obtain ⟨rfl, rfl⟩ := q1
          show gx_Ev _ _ _ _ _ [.int (nI (40 * g + o)), .ref (A 35 0 0), .int (σ.2.1 113 (σ.1 105 o 0) 0), .int (nI (σ.1 105 o 0)), .ref (A 33 0 0)] _ _
          refine gq_35 dX6_workOut_347 R hm (q := 40 * g + o) (rfl) (by first | omega | (have := gv_a V o; omega) | (have := gv_bk V o; omega) | (have := gv_cl V o; omega)) (v := σ.2.1 115 (40 * g + o) 0) (rfl) ?_
          refine gx_icmp_ge dX6_workOut_348 (tgt := 364) (by decide) (fun ht => ?_) (fun ht => ?_)
          · refine gx_aload_n dX6_workOut_364 rfl ?_
            refine gx_get dX6_workOut_365 gf_X6_44 (gs_g6 R hm) (v := .ref (A 33 0 0)) (rfl) ?_
            refine gx_iload dX6_workOut_368 rfl ?_
            refine gq_33 dX6_workOut_370 R hm (q := σ.1 105 o 0) (rfl) (by first | omega | (have := gv_a V o; omega) | (have := gv_bk V o; omega) | (have := gv_cl V o; omega)) (v := σ.2.1 113 (σ.1 105 o 0) 0) (rfl) ?_
            refine ga_I113 (σ := (gs_i (gs_i (gs_i (gs_i σ 103 (σ.1 107 o 0) 0 va) 118 (40 * g + o) 0 1) 111 o 0 1) 112 o 0 an)) hm dX6_workOut_371 R (q := σ.1 105 o 0) (v := σ.2.1 113 (σ.1 105 o 0) 0) (rfl) (by first | omega | (have := gv_a V o; omega) | (have := gv_bk V o; omega) | (have := gv_cl V o; omega)) (fun h R hs4 => ?_)
            refine gx_return dX6_workOut_372 ?_
            have hB : ¬ (σ.1 108 o 0 % σ.1 100 0 0 = g ∧ ¬ σ.2.1 106 o 0 = 0) := fun z => z.2 hk
            have e8 : gs_mg (σ.2.1 113 (σ.1 105 o 0) 0) (σ.2.1 115 (40 * g + o) 0) = σ.2.1 113 (σ.1 105 o 0) 0 := by simp [gs_mg, ht]
            exact ⟨rfl, by simp only [sm_wt]; rw [if_neg hB, if_pos ha, if_pos hn, e8]; exact R, (((((gs_sm.rfl.trans hs0).trans hs1).trans hs2).trans hs3).trans hs4), rfl⟩
          · refine gx_aload_n dX6_workOut_351 rfl ?_
            refine gx_get dX6_workOut_352 gf_X6_50 (gs_g6 R hm) (v := .ref (A 35 0 0)) (rfl) ?_
            refine gx_iload_n dX6_workOut_355 rfl ?_
            refine gx_iload_n dX6_workOut_356 rfl ?_
            refine gx_invS dX6_workOut_357 wm_X6_105 gt_X6_at ws_X6_at (As := [.int (nI g), .int (nI o)]) (rest := [.ref (A 35 0 0), .int (nI (σ.1 105 o 0)), .ref (A 33 0 0)]) rfl rfl (Nat.le_of_ble_eq_true rfl) (by decide) (cc_X6_atE (g := g) (o := o) (rfl) (rfl)) (fun r1 h q1 => ?_)
            obtain ⟨rfl, rfl⟩ := q1
            show gx_Ev _ _ _ _ _ [.int (nI (40 * g + o)), .ref (A 35 0 0), .int (nI (σ.1 105 o 0)), .ref (A 33 0 0)] _ _
            refine gq_35 dX6_workOut_360 R hm (q := 40 * g + o) (rfl) (by first | omega | (have := gv_a V o; omega) | (have := gv_bk V o; omega) | (have := gv_cl V o; omega)) (v := σ.2.1 115 (40 * g + o) 0) (rfl) ?_
            refine gx_goto dX6_workOut_361 (tgt := 371) (by decide) ?_
            refine ga_I113 (σ := (gs_i (gs_i (gs_i (gs_i σ 103 (σ.1 107 o 0) 0 va) 118 (40 * g + o) 0 1) 111 o 0 1) 112 o 0 an)) hm dX6_workOut_371 R (q := σ.1 105 o 0) (v := σ.2.1 115 (40 * g + o) 0) (rfl) (by first | omega | (have := gv_a V o; omega) | (have := gv_bk V o; omega) | (have := gv_cl V o; omega)) (fun h R hs4 => ?_)
            refine gx_return dX6_workOut_372 ?_
            have hB : ¬ (σ.1 108 o 0 % σ.1 100 0 0 = g ∧ ¬ σ.2.1 106 o 0 = 0) := fun z => z.2 hk
            have e8 : gs_mg (σ.2.1 113 (σ.1 105 o 0) 0) (σ.2.1 115 (40 * g + o) 0) = σ.2.1 115 (40 * g + o) 0 := by simp [gs_mg, ht]
            exact ⟨rfl, by simp only [sm_wt]; rw [if_neg hB, if_pos ha, if_pos hn, e8]; exact R, (((((gs_sm.rfl.trans hs0).trans hs1).trans hs2).trans hs3).trans hs4), rfl⟩
    · refine gx_aload_n dX6_workOut_255 rfl ?_
      refine gx_get dX6_workOut_256 gf_X6_17 (gs_g6 R hm) (v := .ref (A 23 0 0)) (rfl) ?_
      refine gx_iload dX6_workOut_259 rfl ?_
      refine gx_iload dX6_workOut_261 rfl ?_
      refine ga_I103 (σ := σ) hm dX6_workOut_263 R (q := σ.1 108 o 0) (v := vb) (rfl) (by first | omega | (have := gv_a V o; omega) | (have := gv_bk V o; omega) | (have := gv_cl V o; omega)) (fun h R hs0 => ?_)
      refine gx_iload_n dX6_workOut_264 rfl ?_
      refine gx_aload_n dX6_workOut_265 rfl ?_
      refine gx_get dX6_workOut_266 gf_X6_101 (gs_g6 R hm) (v := .int (nI (σ.1 100 0 0))) (rfl) ?_
      refine gx_irem dX6_workOut_269 (nI_ne0 (by have := gv_n2 V; omega) (by have := gv_n4 V; omega)) ?_
      rw [show ((nI (σ.1 107 o 0)) - (nI (σ.1 107 o 0)) / (nI (σ.1 100 0 0)) * (nI (σ.1 100 0 0)) : Int32) = nI (σ.1 107 o 0 % σ.1 100 0 0) from pk_rem (by have := gv_a V o; have := gv_bk V o; omega) (by have := gv_n2 V; omega) (by have := gv_n4 V; omega)]
      refine gx_iload_n dX6_workOut_270 rfl ?_
      refine gx_icmp_ne dX6_workOut_271 (tgt := 282) (by decide) (fun ha => ?_) (fun ha => ?_)
      · have ha : ¬ σ.1 107 o 0 % σ.1 100 0 0 = g := fun z => ha (congrArg nI z)
        refine gx_aload_n dX6_workOut_282 rfl ?_
        refine gx_get dX6_workOut_283 gf_X6_59 (gs_g6 R hm) (v := .ref (A 38 0 0)) (rfl) ?_
        refine gx_iload_n dX6_workOut_286 rfl ?_
        refine gx_iload_n dX6_workOut_287 rfl ?_
        refine gx_invS dX6_workOut_288 wm_X6_105 gt_X6_at ws_X6_at (As := [.int (nI g), .int (nI o)]) (rest := [.ref (A 38 0 0)]) rfl rfl (Nat.le_of_ble_eq_true rfl) (by decide) (cc_X6_atE (g := g) (o := o) (rfl) (rfl)) (fun r1 h q1 => ?_)
        obtain ⟨rfl, rfl⟩ := q1
        show gx_Ev _ _ _ _ _ [.int (nI (40 * g + o)), .ref (A 38 0 0)] _ _
        refine gx_iconst dX6_workOut_291 (v := 1) (by decide) ?_
        refine ga_I118 (σ := (gs_i σ 103 (σ.1 108 o 0) 0 vb)) hm dX6_workOut_292 R (by first | exact Or.inl rfl | exact Or.inr rfl) (q := 40 * g + o) (v := 1) (rfl) (by first | omega | (have := gv_a V o; omega) | (have := gv_bk V o; omega) | (have := gv_cl V o; omega)) (fun h R hs1 => ?_)
        refine gx_aload_n dX6_workOut_293 rfl ?_
        refine gx_get dX6_workOut_294 gf_X6_38 (gs_g6 R hm) (v := .ref (A 31 0 0)) (rfl) ?_
        refine gx_iload_n dX6_workOut_297 rfl ?_
        refine gq_31 dX6_workOut_298 R hm (q := o) (rfl) (by first | omega | (have := gv_a V o; omega) | (have := gv_bk V o; omega) | (have := gv_cl V o; omega)) (v := σ.2.1 111 o 0) (rfl) ?_
        refine gx_if_ne dX6_workOut_299 (tgt := 372) (by decide) (fun hn => ?_) (fun hn => ?_)
        · refine gx_return dX6_workOut_372 ?_
          have hB : (σ.1 108 o 0 % σ.1 100 0 0 = g ∧ ¬ σ.2.1 106 o 0 = 0) := ⟨hb, hk⟩
          exact ⟨rfl, by simp only [sm_wt]; rw [if_pos hB, if_neg ha, if_neg hn]; exact R, ((gs_sm.rfl.trans hs0).trans hs1), rfl⟩
        · refine gx_aload_n dX6_workOut_302 rfl ?_
          refine gx_get dX6_workOut_303 gf_X6_38 (gs_g6 R hm) (v := .ref (A 31 0 0)) (rfl) ?_
          refine gx_iload_n dX6_workOut_306 rfl ?_
          refine gx_iconst dX6_workOut_307 (v := 1) (by decide) ?_
          refine ga_I111 (σ := (gs_i (gs_i σ 103 (σ.1 108 o 0) 0 vb) 118 (40 * g + o) 0 1)) hm dX6_workOut_308 R (by first | exact Or.inl rfl | exact Or.inr rfl) (q := o) (v := 1) (rfl) (by first | omega | (have := gv_a V o; omega) | (have := gv_bk V o; omega) | (have := gv_cl V o; omega)) (fun h R hs2 => ?_)
          refine gx_aload_n dX6_workOut_309 rfl ?_
          refine gx_get dX6_workOut_310 gf_X6_41 (gs_g6 R hm) (v := .ref (A 32 0 0)) (rfl) ?_
          refine gx_iload_n dX6_workOut_313 rfl ?_
          refine gx_iload dX6_workOut_314 rfl ?_
          refine ga_I112 (σ := (gs_i (gs_i (gs_i σ 103 (σ.1 108 o 0) 0 vb) 118 (40 * g + o) 0 1) 111 o 0 1)) hm dX6_workOut_316 R (q := o) (v := an) (rfl) (by first | omega | (have := gv_a V o; omega) | (have := gv_bk V o; omega) | (have := gv_cl V o; omega)) (fun h R hs3 => ?_)
          refine gx_aload_n dX6_workOut_317 rfl ?_
          refine gx_get dX6_workOut_318 gf_X6_20 (gs_g6 R hm) (v := .ref (A 25 0 0)) (rfl) ?_
          refine gx_iload_n dX6_workOut_321 rfl ?_
          refine gq_25 dX6_workOut_322 R hm (q := o) (rfl) (by first | omega | (have := gv_a V o; omega) | (have := gv_bk V o; omega) | (have := gv_cl V o; omega)) (v := nI (σ.1 105 o 0)) (rfl) ?_
          refine gx_istore dX6_workOut_323 (by decide) rfl (L' := [some (.ref (A 6 0 0)), some (.int (nI g)), some (.int (nI o)), some (.int (nI (σ.1 107 o 0))), some (.int (nI (σ.1 108 o 0))), some (.int va), some (.int vb), some (.int an), some (.int (nI (σ.1 105 o 0)))]) rfl ?_
          refine gx_aload_n dX6_workOut_325 rfl ?_
          refine gx_get dX6_workOut_326 gf_X6_44 (gs_g6 R hm) (v := .ref (A 33 0 0)) (rfl) ?_
          refine gx_iload dX6_workOut_329 rfl ?_
          refine gx_aload_n dX6_workOut_331 rfl ?_
          refine gx_get dX6_workOut_332 gf_X6_44 (gs_g6 R hm) (v := .ref (A 33 0 0)) (rfl) ?_
          refine gx_iload dX6_workOut_335 rfl ?_
          refine gq_33 dX6_workOut_337 R hm (q := σ.1 105 o 0) (rfl) (by first | omega | (have := gv_a V o; omega) | (have := gv_bk V o; omega) | (have := gv_cl V o; omega)) (v := σ.2.1 113 (σ.1 105 o 0) 0) (rfl) ?_
          refine gx_aload_n dX6_workOut_338 rfl ?_
          refine gx_get dX6_workOut_339 gf_X6_50 (gs_g6 R hm) (v := .ref (A 35 0 0)) (rfl) ?_
          refine gx_iload_n dX6_workOut_342 rfl ?_
          refine gx_iload_n dX6_workOut_343 rfl ?_
          refine gx_invS dX6_workOut_344 wm_X6_105 gt_X6_at ws_X6_at (As := [.int (nI g), .int (nI o)]) (rest := [.ref (A 35 0 0), .int (σ.2.1 113 (σ.1 105 o 0) 0), .int (nI (σ.1 105 o 0)), .ref (A 33 0 0)]) rfl rfl (Nat.le_of_ble_eq_true rfl) (by decide) (cc_X6_atE (g := g) (o := o) (rfl) (rfl)) (fun r1 h q1 => ?_)
          obtain ⟨rfl, rfl⟩ := q1
          show gx_Ev _ _ _ _ _ [.int (nI (40 * g + o)), .ref (A 35 0 0), .int (σ.2.1 113 (σ.1 105 o 0) 0), .int (nI (σ.1 105 o 0)), .ref (A 33 0 0)] _ _
          refine gq_35 dX6_workOut_347 R hm (q := 40 * g + o) (rfl) (by first | omega | (have := gv_a V o; omega) | (have := gv_bk V o; omega) | (have := gv_cl V o; omega)) (v := σ.2.1 115 (40 * g + o) 0) (rfl) ?_
          refine gx_icmp_ge dX6_workOut_348 (tgt := 364) (by decide) (fun ht => ?_) (fun ht => ?_)
          · refine gx_aload_n dX6_workOut_364 rfl ?_
            refine gx_get dX6_workOut_365 gf_X6_44 (gs_g6 R hm) (v := .ref (A 33 0 0)) (rfl) ?_
            refine gx_iload dX6_workOut_368 rfl ?_
            refine gq_33 dX6_workOut_370 R hm (q := σ.1 105 o 0) (rfl) (by first | omega | (have := gv_a V o; omega) | (have := gv_bk V o; omega) | (have := gv_cl V o; omega)) (v := σ.2.1 113 (σ.1 105 o 0) 0) (rfl) ?_
            refine ga_I113 (σ := (gs_i (gs_i (gs_i (gs_i σ 103 (σ.1 108 o 0) 0 vb) 118 (40 * g + o) 0 1) 111 o 0 1) 112 o 0 an)) hm dX6_workOut_371 R (q := σ.1 105 o 0) (v := σ.2.1 113 (σ.1 105 o 0) 0) (rfl) (by first | omega | (have := gv_a V o; omega) | (have := gv_bk V o; omega) | (have := gv_cl V o; omega)) (fun h R hs4 => ?_)
            refine gx_return dX6_workOut_372 ?_
            have hB : (σ.1 108 o 0 % σ.1 100 0 0 = g ∧ ¬ σ.2.1 106 o 0 = 0) := ⟨hb, hk⟩
            have e8 : gs_mg (σ.2.1 113 (σ.1 105 o 0) 0) (σ.2.1 115 (40 * g + o) 0) = σ.2.1 113 (σ.1 105 o 0) 0 := by simp [gs_mg, ht]
            exact ⟨rfl, by simp only [sm_wt]; rw [if_pos hB, if_neg ha, if_pos hn, e8]; exact R, (((((gs_sm.rfl.trans hs0).trans hs1).trans hs2).trans hs3).trans hs4), rfl⟩
          · refine gx_aload_n dX6_workOut_351 rfl ?_
            refine gx_get dX6_workOut_352 gf_X6_50 (gs_g6 R hm) (v := .ref (A 35 0 0)) (rfl) ?_
            refine gx_iload_n dX6_workOut_355 rfl ?_
            refine gx_iload_n dX6_workOut_356 rfl ?_
            refine gx_invS dX6_workOut_357 wm_X6_105 gt_X6_at ws_X6_at (As := [.int (nI g), .int (nI o)]) (rest := [.ref (A 35 0 0), .int (nI (σ.1 105 o 0)), .ref (A 33 0 0)]) rfl rfl (Nat.le_of_ble_eq_true rfl) (by decide) (cc_X6_atE (g := g) (o := o) (rfl) (rfl)) (fun r1 h q1 => ?_)
            obtain ⟨rfl, rfl⟩ := q1
            show gx_Ev _ _ _ _ _ [.int (nI (40 * g + o)), .ref (A 35 0 0), .int (nI (σ.1 105 o 0)), .ref (A 33 0 0)] _ _
            refine gq_35 dX6_workOut_360 R hm (q := 40 * g + o) (rfl) (by first | omega | (have := gv_a V o; omega) | (have := gv_bk V o; omega) | (have := gv_cl V o; omega)) (v := σ.2.1 115 (40 * g + o) 0) (rfl) ?_
            refine gx_goto dX6_workOut_361 (tgt := 371) (by decide) ?_
            refine ga_I113 (σ := (gs_i (gs_i (gs_i (gs_i σ 103 (σ.1 108 o 0) 0 vb) 118 (40 * g + o) 0 1) 111 o 0 1) 112 o 0 an)) hm dX6_workOut_371 R (q := σ.1 105 o 0) (v := σ.2.1 115 (40 * g + o) 0) (rfl) (by first | omega | (have := gv_a V o; omega) | (have := gv_bk V o; omega) | (have := gv_cl V o; omega)) (fun h R hs4 => ?_)
            refine gx_return dX6_workOut_372 ?_
            have hB : (σ.1 108 o 0 % σ.1 100 0 0 = g ∧ ¬ σ.2.1 106 o 0 = 0) := ⟨hb, hk⟩
            have e8 : gs_mg (σ.2.1 113 (σ.1 105 o 0) 0) (σ.2.1 115 (40 * g + o) 0) = σ.2.1 115 (40 * g + o) 0 := by simp [gs_mg, ht]
            exact ⟨rfl, by simp only [sm_wt]; rw [if_pos hB, if_neg ha, if_pos hn, e8]; exact R, (((((gs_sm.rfl.trans hs0).trans hs1).trans hs2).trans hs3).trans hs4), rfl⟩
      · have ha := (nI_eq (by have := gv_n2 V; have := gv_n4 V; have := Nat.mod_lt (σ.1 107 o 0) (show 0 < σ.1 100 0 0 by omega); omega) (by omega)).mp ha
        refine gx_aload_n dX6_workOut_274 rfl ?_
        refine gx_get dX6_workOut_275 gf_X6_17 (gs_g6 R hm) (v := .ref (A 23 0 0)) (rfl) ?_
        refine gx_iload_n dX6_workOut_278 rfl ?_
        refine gx_iload dX6_workOut_279 rfl ?_
        refine ga_I103 (σ := (gs_i σ 103 (σ.1 108 o 0) 0 vb)) hm dX6_workOut_281 R (q := σ.1 107 o 0) (v := va) (rfl) (by first | omega | (have := gv_a V o; omega) | (have := gv_bk V o; omega) | (have := gv_cl V o; omega)) (fun h R hs1 => ?_)
        refine gx_aload_n dX6_workOut_282 rfl ?_
        refine gx_get dX6_workOut_283 gf_X6_59 (gs_g6 R hm) (v := .ref (A 38 0 0)) (rfl) ?_
        refine gx_iload_n dX6_workOut_286 rfl ?_
        refine gx_iload_n dX6_workOut_287 rfl ?_
        refine gx_invS dX6_workOut_288 wm_X6_105 gt_X6_at ws_X6_at (As := [.int (nI g), .int (nI o)]) (rest := [.ref (A 38 0 0)]) rfl rfl (Nat.le_of_ble_eq_true rfl) (by decide) (cc_X6_atE (g := g) (o := o) (rfl) (rfl)) (fun r1 h q1 => ?_)
        obtain ⟨rfl, rfl⟩ := q1
        show gx_Ev _ _ _ _ _ [.int (nI (40 * g + o)), .ref (A 38 0 0)] _ _
        refine gx_iconst dX6_workOut_291 (v := 1) (by decide) ?_
        refine ga_I118 (σ := (gs_i (gs_i σ 103 (σ.1 108 o 0) 0 vb) 103 (σ.1 107 o 0) 0 va)) hm dX6_workOut_292 R (by first | exact Or.inl rfl | exact Or.inr rfl) (q := 40 * g + o) (v := 1) (rfl) (by first | omega | (have := gv_a V o; omega) | (have := gv_bk V o; omega) | (have := gv_cl V o; omega)) (fun h R hs2 => ?_)
        refine gx_aload_n dX6_workOut_293 rfl ?_
        refine gx_get dX6_workOut_294 gf_X6_38 (gs_g6 R hm) (v := .ref (A 31 0 0)) (rfl) ?_
        refine gx_iload_n dX6_workOut_297 rfl ?_
        refine gq_31 dX6_workOut_298 R hm (q := o) (rfl) (by first | omega | (have := gv_a V o; omega) | (have := gv_bk V o; omega) | (have := gv_cl V o; omega)) (v := σ.2.1 111 o 0) (rfl) ?_
        refine gx_if_ne dX6_workOut_299 (tgt := 372) (by decide) (fun hn => ?_) (fun hn => ?_)
        · refine gx_return dX6_workOut_372 ?_
          have hB : (σ.1 108 o 0 % σ.1 100 0 0 = g ∧ ¬ σ.2.1 106 o 0 = 0) := ⟨hb, hk⟩
          exact ⟨rfl, by simp only [sm_wt]; rw [if_pos hB, if_pos ha, if_neg hn]; exact R, (((gs_sm.rfl.trans hs0).trans hs1).trans hs2), rfl⟩
        · refine gx_aload_n dX6_workOut_302 rfl ?_
          refine gx_get dX6_workOut_303 gf_X6_38 (gs_g6 R hm) (v := .ref (A 31 0 0)) (rfl) ?_
          refine gx_iload_n dX6_workOut_306 rfl ?_
          refine gx_iconst dX6_workOut_307 (v := 1) (by decide) ?_
          refine ga_I111 (σ := (gs_i (gs_i (gs_i σ 103 (σ.1 108 o 0) 0 vb) 103 (σ.1 107 o 0) 0 va) 118 (40 * g + o) 0 1)) hm dX6_workOut_308 R (by first | exact Or.inl rfl | exact Or.inr rfl) (q := o) (v := 1) (rfl) (by first | omega | (have := gv_a V o; omega) | (have := gv_bk V o; omega) | (have := gv_cl V o; omega)) (fun h R hs3 => ?_)
          refine gx_aload_n dX6_workOut_309 rfl ?_
          refine gx_get dX6_workOut_310 gf_X6_41 (gs_g6 R hm) (v := .ref (A 32 0 0)) (rfl) ?_
          refine gx_iload_n dX6_workOut_313 rfl ?_
          refine gx_iload dX6_workOut_314 rfl ?_
          refine ga_I112 (σ := (gs_i (gs_i (gs_i (gs_i σ 103 (σ.1 108 o 0) 0 vb) 103 (σ.1 107 o 0) 0 va) 118 (40 * g + o) 0 1) 111 o 0 1)) hm dX6_workOut_316 R (q := o) (v := an) (rfl) (by first | omega | (have := gv_a V o; omega) | (have := gv_bk V o; omega) | (have := gv_cl V o; omega)) (fun h R hs4 => ?_)
          refine gx_aload_n dX6_workOut_317 rfl ?_
          refine gx_get dX6_workOut_318 gf_X6_20 (gs_g6 R hm) (v := .ref (A 25 0 0)) (rfl) ?_
          refine gx_iload_n dX6_workOut_321 rfl ?_
          refine gq_25 dX6_workOut_322 R hm (q := o) (rfl) (by first | omega | (have := gv_a V o; omega) | (have := gv_bk V o; omega) | (have := gv_cl V o; omega)) (v := nI (σ.1 105 o 0)) (rfl) ?_
          refine gx_istore dX6_workOut_323 (by decide) rfl (L' := [some (.ref (A 6 0 0)), some (.int (nI g)), some (.int (nI o)), some (.int (nI (σ.1 107 o 0))), some (.int (nI (σ.1 108 o 0))), some (.int va), some (.int vb), some (.int an), some (.int (nI (σ.1 105 o 0)))]) rfl ?_
          refine gx_aload_n dX6_workOut_325 rfl ?_
          refine gx_get dX6_workOut_326 gf_X6_44 (gs_g6 R hm) (v := .ref (A 33 0 0)) (rfl) ?_
          refine gx_iload dX6_workOut_329 rfl ?_
          refine gx_aload_n dX6_workOut_331 rfl ?_
          refine gx_get dX6_workOut_332 gf_X6_44 (gs_g6 R hm) (v := .ref (A 33 0 0)) (rfl) ?_
          refine gx_iload dX6_workOut_335 rfl ?_
          refine gq_33 dX6_workOut_337 R hm (q := σ.1 105 o 0) (rfl) (by first | omega | (have := gv_a V o; omega) | (have := gv_bk V o; omega) | (have := gv_cl V o; omega)) (v := σ.2.1 113 (σ.1 105 o 0) 0) (rfl) ?_
          refine gx_aload_n dX6_workOut_338 rfl ?_
          refine gx_get dX6_workOut_339 gf_X6_50 (gs_g6 R hm) (v := .ref (A 35 0 0)) (rfl) ?_
          refine gx_iload_n dX6_workOut_342 rfl ?_
          refine gx_iload_n dX6_workOut_343 rfl ?_
          refine gx_invS dX6_workOut_344 wm_X6_105 gt_X6_at ws_X6_at (As := [.int (nI g), .int (nI o)]) (rest := [.ref (A 35 0 0), .int (σ.2.1 113 (σ.1 105 o 0) 0), .int (nI (σ.1 105 o 0)), .ref (A 33 0 0)]) rfl rfl (Nat.le_of_ble_eq_true rfl) (by decide) (cc_X6_atE (g := g) (o := o) (rfl) (rfl)) (fun r1 h q1 => ?_)
          obtain ⟨rfl, rfl⟩ := q1
          show gx_Ev _ _ _ _ _ [.int (nI (40 * g + o)), .ref (A 35 0 0), .int (σ.2.1 113 (σ.1 105 o 0) 0), .int (nI (σ.1 105 o 0)), .ref (A 33 0 0)] _ _
          refine gq_35 dX6_workOut_347 R hm (q := 40 * g + o) (rfl) (by first | omega | (have := gv_a V o; omega) | (have := gv_bk V o; omega) | (have := gv_cl V o; omega)) (v := σ.2.1 115 (40 * g + o) 0) (rfl) ?_
          refine gx_icmp_ge dX6_workOut_348 (tgt := 364) (by decide) (fun ht => ?_) (fun ht => ?_)
          · refine gx_aload_n dX6_workOut_364 rfl ?_
            refine gx_get dX6_workOut_365 gf_X6_44 (gs_g6 R hm) (v := .ref (A 33 0 0)) (rfl) ?_
            refine gx_iload dX6_workOut_368 rfl ?_
            refine gq_33 dX6_workOut_370 R hm (q := σ.1 105 o 0) (rfl) (by first | omega | (have := gv_a V o; omega) | (have := gv_bk V o; omega) | (have := gv_cl V o; omega)) (v := σ.2.1 113 (σ.1 105 o 0) 0) (rfl) ?_
            refine ga_I113 (σ := (gs_i (gs_i (gs_i (gs_i (gs_i σ 103 (σ.1 108 o 0) 0 vb) 103 (σ.1 107 o 0) 0 va) 118 (40 * g + o) 0 1) 111 o 0 1) 112 o 0 an)) hm dX6_workOut_371 R (q := σ.1 105 o 0) (v := σ.2.1 113 (σ.1 105 o 0) 0) (rfl) (by first | omega | (have := gv_a V o; omega) | (have := gv_bk V o; omega) | (have := gv_cl V o; omega)) (fun h R hs5 => ?_)
            refine gx_return dX6_workOut_372 ?_
            have hB : (σ.1 108 o 0 % σ.1 100 0 0 = g ∧ ¬ σ.2.1 106 o 0 = 0) := ⟨hb, hk⟩
            have e8 : gs_mg (σ.2.1 113 (σ.1 105 o 0) 0) (σ.2.1 115 (40 * g + o) 0) = σ.2.1 113 (σ.1 105 o 0) 0 := by simp [gs_mg, ht]
            exact ⟨rfl, by simp only [sm_wt]; rw [if_pos hB, if_pos ha, if_pos hn, e8]; exact R, ((((((gs_sm.rfl.trans hs0).trans hs1).trans hs2).trans hs3).trans hs4).trans hs5), rfl⟩
          · refine gx_aload_n dX6_workOut_351 rfl ?_
            refine gx_get dX6_workOut_352 gf_X6_50 (gs_g6 R hm) (v := .ref (A 35 0 0)) (rfl) ?_
            refine gx_iload_n dX6_workOut_355 rfl ?_
            refine gx_iload_n dX6_workOut_356 rfl ?_
            refine gx_invS dX6_workOut_357 wm_X6_105 gt_X6_at ws_X6_at (As := [.int (nI g), .int (nI o)]) (rest := [.ref (A 35 0 0), .int (nI (σ.1 105 o 0)), .ref (A 33 0 0)]) rfl rfl (Nat.le_of_ble_eq_true rfl) (by decide) (cc_X6_atE (g := g) (o := o) (rfl) (rfl)) (fun r1 h q1 => ?_)
            obtain ⟨rfl, rfl⟩ := q1
            show gx_Ev _ _ _ _ _ [.int (nI (40 * g + o)), .ref (A 35 0 0), .int (nI (σ.1 105 o 0)), .ref (A 33 0 0)] _ _
            refine gq_35 dX6_workOut_360 R hm (q := 40 * g + o) (rfl) (by first | omega | (have := gv_a V o; omega) | (have := gv_bk V o; omega) | (have := gv_cl V o; omega)) (v := σ.2.1 115 (40 * g + o) 0) (rfl) ?_
            refine gx_goto dX6_workOut_361 (tgt := 371) (by decide) ?_
            refine ga_I113 (σ := (gs_i (gs_i (gs_i (gs_i (gs_i σ 103 (σ.1 108 o 0) 0 vb) 103 (σ.1 107 o 0) 0 va) 118 (40 * g + o) 0 1) 111 o 0 1) 112 o 0 an)) hm dX6_workOut_371 R (q := σ.1 105 o 0) (v := σ.2.1 115 (40 * g + o) 0) (rfl) (by first | omega | (have := gv_a V o; omega) | (have := gv_bk V o; omega) | (have := gv_cl V o; omega)) (fun h R hs5 => ?_)
            refine gx_return dX6_workOut_372 ?_
            have hB : (σ.1 108 o 0 % σ.1 100 0 0 = g ∧ ¬ σ.2.1 106 o 0 = 0) := ⟨hb, hk⟩
            have e8 : gs_mg (σ.2.1 113 (σ.1 105 o 0) 0) (σ.2.1 115 (40 * g + o) 0) = σ.2.1 115 (40 * g + o) 0 := by simp [gs_mg, ht]
            exact ⟨rfl, by simp only [sm_wt]; rw [if_pos hB, if_pos ha, if_pos hn, e8]; exact R, ((((((gs_sm.rfl.trans hs0).trans hs1).trans hs2).trans hs3).trans hs4).trans hs5), rfl⟩
def sm_wv (σ : gs_T) (o : Nat) (va vb : Int32) : Int32 × Int32 × Int32 := if σ.2.1 106 o 0 = 0 then (va + σ.2.1 109 o 0, if σ.1 107 o 0 = σ.1 108 o 0 then va + σ.2.1 109 o 0 else vb, va + σ.2.1 109 o 0) else if σ.2.1 106 o 0 = 1 then (if va < σ.2.1 109 o 0 then (va, vb, 0) else if σ.1 107 o 0 = σ.1 108 o 0 then (va, vb, 1) else (va - σ.2.1 109 o 0, vb + σ.2.1 109 o 0, 1)) else if σ.2.1 106 o 0 = 2 then (va, vb, va + vb) else (vb, va, vb)
set_option maxHeartbeats 4000000 in
theorem cl_wo_m {S : gx_S} {h : gx_H} {σ : gs_T} {A : gs_A} (R : gs_R h σ A) (hm : σ.1 31 0 0 = 1) (V : gv_V σ) {g o : Nat} (hg4 : g < 4) (ho : o < 40) (va vb : Int32) (w7 w8 : Option Value) (g7 : gx_ok [none, none, none, none, none, none, none, w7] 8 = true) : gx_Ev S gm_X6_workOut 3 92 [some (.ref (A 6 0 0)), some (.int (nI g)), some (.int (nI o)), some (.int (nI (σ.1 107 o 0))), some (.int (nI (σ.1 108 o 0))), some (.int va), some (.int vb), w7, w8] [] h (fun r h' => gx_rt none r ∧ gs_R h' (sm_wt σ g o (sm_wv σ o va vb).1 (sm_wv σ o va vb).2.1 (sm_wv σ o va vb).2.2) A ∧ gs_sm h h' ∧ r = none) := by
  refine gx_aload_n dX6_workOut_92 rfl ?_
  refine gx_get dX6_workOut_93 gf_X6_23 (gs_g6 R hm) (v := .ref (A 26 0 0)) (rfl) ?_
  refine gx_iload_n dX6_workOut_96 rfl ?_
  refine gq_26 dX6_workOut_97 R hm (q := o) (rfl) (by first | omega | (have := gv_a V o; omega) | (have := gv_bk V o; omega) | (have := gv_cl V o; omega)) (v := σ.2.1 106 o 0) (rfl) ?_
  refine gx_if_ne dX6_workOut_98 (tgt := 134) (by decide) (fun k0 => ?_) (fun k0 => ?_)
  · refine gx_aload_n dX6_workOut_134 rfl ?_
    refine gx_get dX6_workOut_135 gf_X6_23 (gs_g6 R hm) (v := .ref (A 26 0 0)) (rfl) ?_
    refine gx_iload_n dX6_workOut_138 rfl ?_
    refine gq_26 dX6_workOut_139 R hm (q := o) (rfl) (by first | omega | (have := gv_a V o; omega) | (have := gv_bk V o; omega) | (have := gv_cl V o; omega)) (v := σ.2.1 106 o 0) (rfl) ?_
    refine gx_iconst dX6_workOut_140 (v := 1) (by decide) ?_
    refine gx_icmp_ne dX6_workOut_141 (tgt := 199) (by decide) (fun k1 => ?_) (fun k1 => ?_)
    · refine gx_aload_n dX6_workOut_199 rfl ?_
      refine gx_get dX6_workOut_200 gf_X6_23 (gs_g6 R hm) (v := .ref (A 26 0 0)) (rfl) ?_
      refine gx_iload_n dX6_workOut_203 rfl ?_
      refine gq_26 dX6_workOut_204 R hm (q := o) (rfl) (by first | omega | (have := gv_a V o; omega) | (have := gv_bk V o; omega) | (have := gv_cl V o; omega)) (v := σ.2.1 106 o 0) (rfl) ?_
      refine gx_iconst dX6_workOut_205 (v := 2) (by decide) ?_
      refine gx_icmp_ne dX6_workOut_206 (tgt := 219) (by decide) (fun k2 => ?_) (fun k2 => ?_)
      · refine gx_iload dX6_workOut_219 rfl ?_
        refine gx_istore dX6_workOut_221 (by decide) g7 (L' := [some (.ref (A 6 0 0)), some (.int (nI g)), some (.int (nI o)), some (.int (nI (σ.1 107 o 0))), some (.int (nI (σ.1 108 o 0))), some (.int va), some (.int vb), w7, some (.int va)]) rfl ?_
        refine gx_iload dX6_workOut_223 rfl ?_
        refine gx_istore dX6_workOut_225 (by decide) rfl (L' := [some (.ref (A 6 0 0)), some (.int (nI g)), some (.int (nI o)), some (.int (nI (σ.1 107 o 0))), some (.int (nI (σ.1 108 o 0))), some (.int vb), some (.int vb), w7, some (.int va)]) rfl ?_
        refine gx_iload dX6_workOut_227 rfl ?_
        refine gx_istore dX6_workOut_229 (by decide) rfl (L' := [some (.ref (A 6 0 0)), some (.int (nI g)), some (.int (nI o)), some (.int (nI (σ.1 107 o 0))), some (.int (nI (σ.1 108 o 0))), some (.int vb), some (.int va), w7, some (.int va)]) rfl ?_
        refine gx_iload dX6_workOut_231 rfl ?_
        refine gx_istore dX6_workOut_233 (by decide) rfl (L' := [some (.ref (A 6 0 0)), some (.int (nI g)), some (.int (nI o)), some (.int (nI (σ.1 107 o 0))), some (.int (nI (σ.1 108 o 0))), some (.int vb), some (.int va), some (.int vb), some (.int va)]) rfl ?_
        have e9 : sm_wv σ o va vb = (vb, va, vb) := by simp [sm_wv, k0, k1, k2]
        rw [e9]
        exact cl_wo_t R hm V hg4 ho vb va vb (some (.int va))
      · refine gx_iload dX6_workOut_209 rfl ?_
        refine gx_iload dX6_workOut_211 rfl ?_
        refine gx_iadd dX6_workOut_213 ?_
        refine gx_istore dX6_workOut_214 (by decide) rfl (L' := [some (.ref (A 6 0 0)), some (.int (nI g)), some (.int (nI o)), some (.int (nI (σ.1 107 o 0))), some (.int (nI (σ.1 108 o 0))), some (.int va), some (.int vb), some (.int (va + vb)), w8]) rfl ?_
        refine gx_goto dX6_workOut_216 (tgt := 235) (by decide) ?_
        have e9 : sm_wv σ o va vb = (va, vb, va + vb) := by simp [sm_wv, k0, k1, k2]
        rw [e9]
        exact cl_wo_t R hm V hg4 ho va vb (va + vb) (w8)
    · refine gx_iload dX6_workOut_144 rfl ?_
      refine gx_aload_n dX6_workOut_146 rfl ?_
      refine gx_get dX6_workOut_147 gf_X6_32 (gs_g6 R hm) (v := .ref (A 29 0 0)) (rfl) ?_
      refine gx_iload_n dX6_workOut_150 rfl ?_
      refine gq_29 dX6_workOut_151 R hm (q := o) (rfl) (by first | omega | (have := gv_a V o; omega) | (have := gv_bk V o; omega) | (have := gv_cl V o; omega)) (v := σ.2.1 109 o 0) (rfl) ?_
      refine gx_icmp_lt dX6_workOut_152 (tgt := 159) (by decide) (fun hlt => ?_) (fun hlt => ?_)
      · refine gx_iconst dX6_workOut_159 (v := 0) (by decide) ?_
        refine gx_istore dX6_workOut_160 (by decide) rfl (L' := [some (.ref (A 6 0 0)), some (.int (nI g)), some (.int (nI o)), some (.int (nI (σ.1 107 o 0))), some (.int (nI (σ.1 108 o 0))), some (.int va), some (.int vb), some (.int 0), w8]) rfl ?_
        refine gx_iload dX6_workOut_162 rfl ?_
        refine gx_iconst dX6_workOut_164 (v := 1) (by decide) ?_
        refine gx_icmp_ne dX6_workOut_165 (tgt := 235) (by decide) (fun hc5 => ?_) (fun hc5 => absurd hc5 (by decide))
        have e9 : sm_wv σ o va vb = (va, vb, 0) := by simp [sm_wv, k0, k1, hlt, hc5]
        rw [e9]
        exact cl_wo_t R hm V hg4 ho va vb 0 (w8)
      · refine gx_iconst dX6_workOut_155 (v := 1) (by decide) ?_
        refine gx_goto dX6_workOut_156 (tgt := 160) (by decide) ?_
        refine gx_istore dX6_workOut_160 (by decide) rfl (L' := [some (.ref (A 6 0 0)), some (.int (nI g)), some (.int (nI o)), some (.int (nI (σ.1 107 o 0))), some (.int (nI (σ.1 108 o 0))), some (.int va), some (.int vb), some (.int 1), w8]) rfl ?_
        refine gx_iload dX6_workOut_162 rfl ?_
        refine gx_iconst dX6_workOut_164 (v := 1) (by decide) ?_
        refine gx_icmp_ne dX6_workOut_165 (tgt := 235) (by decide) (fun hc6 => absurd hc6 (by decide)) (fun hc6 => ?_)
        refine gx_iload_n dX6_workOut_168 rfl ?_
        refine gx_iload dX6_workOut_169 rfl ?_
        refine gx_icmp_eq dX6_workOut_171 (tgt := 235) (by decide) (fun hab => ?_) (fun hab => ?_)
        · have hab := (nI_eq (by have := gv_a V o; omega) (by have := gv_bk V o; omega)).mp hab
          have e9 : sm_wv σ o va vb = (va, vb, 1) := by simp [sm_wv, k0, k1, hlt, hc6, hab]
          rw [e9]
          exact cl_wo_t R hm V hg4 ho va vb 1 (w8)
        · have hab : ¬ σ.1 107 o 0 = σ.1 108 o 0 := fun z => hab (congrArg nI z)
          refine gx_iload dX6_workOut_174 rfl ?_
          refine gx_aload_n dX6_workOut_176 rfl ?_
          refine gx_get dX6_workOut_177 gf_X6_32 (gs_g6 R hm) (v := .ref (A 29 0 0)) (rfl) ?_
          refine gx_iload_n dX6_workOut_180 rfl ?_
          refine gq_29 dX6_workOut_181 R hm (q := o) (rfl) (by first | omega | (have := gv_a V o; omega) | (have := gv_bk V o; omega) | (have := gv_cl V o; omega)) (v := σ.2.1 109 o 0) (rfl) ?_
          refine gx_isub dX6_workOut_182 ?_
          refine gx_istore dX6_workOut_183 (by decide) rfl (L' := [some (.ref (A 6 0 0)), some (.int (nI g)), some (.int (nI o)), some (.int (nI (σ.1 107 o 0))), some (.int (nI (σ.1 108 o 0))), some (.int (va - (σ.2.1 109 o 0))), some (.int vb), some (.int 1), w8]) rfl ?_
          refine gx_iload dX6_workOut_185 rfl ?_
          refine gx_aload_n dX6_workOut_187 rfl ?_
          refine gx_get dX6_workOut_188 gf_X6_32 (gs_g6 R hm) (v := .ref (A 29 0 0)) (rfl) ?_
          refine gx_iload_n dX6_workOut_191 rfl ?_
          refine gq_29 dX6_workOut_192 R hm (q := o) (rfl) (by first | omega | (have := gv_a V o; omega) | (have := gv_bk V o; omega) | (have := gv_cl V o; omega)) (v := σ.2.1 109 o 0) (rfl) ?_
          refine gx_iadd dX6_workOut_193 ?_
          refine gx_istore dX6_workOut_194 (by decide) rfl (L' := [some (.ref (A 6 0 0)), some (.int (nI g)), some (.int (nI o)), some (.int (nI (σ.1 107 o 0))), some (.int (nI (σ.1 108 o 0))), some (.int (va - (σ.2.1 109 o 0))), some (.int (vb + (σ.2.1 109 o 0))), some (.int 1), w8]) rfl ?_
          refine gx_goto dX6_workOut_196 (tgt := 235) (by decide) ?_
          have e9 : sm_wv σ o va vb = (va - (σ.2.1 109 o 0), vb + (σ.2.1 109 o 0), 1) := by simp [sm_wv, k0, k1, hlt, hc6, hab]
          rw [e9]
          exact cl_wo_t R hm V hg4 ho (va - (σ.2.1 109 o 0)) (vb + (σ.2.1 109 o 0)) 1 (w8)
  · refine gx_iload dX6_workOut_101 rfl ?_
    refine gx_aload_n dX6_workOut_103 rfl ?_
    refine gx_get dX6_workOut_104 gf_X6_32 (gs_g6 R hm) (v := .ref (A 29 0 0)) (rfl) ?_
    refine gx_iload_n dX6_workOut_107 rfl ?_
    refine gq_29 dX6_workOut_108 R hm (q := o) (rfl) (by first | omega | (have := gv_a V o; omega) | (have := gv_bk V o; omega) | (have := gv_cl V o; omega)) (v := σ.2.1 109 o 0) (rfl) ?_
    refine gx_iadd dX6_workOut_109 ?_
    refine gx_istore dX6_workOut_110 (by decide) rfl (L' := [some (.ref (A 6 0 0)), some (.int (nI g)), some (.int (nI o)), some (.int (nI (σ.1 107 o 0))), some (.int (nI (σ.1 108 o 0))), some (.int (va + (σ.2.1 109 o 0))), some (.int vb), w7, w8]) rfl ?_
    refine gx_iload dX6_workOut_112 rfl ?_
    refine gx_istore dX6_workOut_114 (by decide) rfl (L' := [some (.ref (A 6 0 0)), some (.int (nI g)), some (.int (nI o)), some (.int (nI (σ.1 107 o 0))), some (.int (nI (σ.1 108 o 0))), some (.int (va + (σ.2.1 109 o 0))), some (.int vb), some (.int (va + (σ.2.1 109 o 0))), w8]) rfl ?_
    refine gx_iload_n dX6_workOut_116 rfl ?_
    refine gx_iload dX6_workOut_117 rfl ?_
    refine gx_icmp_ne dX6_workOut_119 (tgt := 127) (by decide) (fun hab => ?_) (fun hab => ?_)
    · have hab : ¬ σ.1 107 o 0 = σ.1 108 o 0 := fun z => hab (congrArg nI z)
      refine gx_iload dX6_workOut_127 rfl ?_
      refine gx_istore dX6_workOut_129 (by decide) rfl (L' := [some (.ref (A 6 0 0)), some (.int (nI g)), some (.int (nI o)), some (.int (nI (σ.1 107 o 0))), some (.int (nI (σ.1 108 o 0))), some (.int (va + (σ.2.1 109 o 0))), some (.int vb), some (.int (va + (σ.2.1 109 o 0))), w8]) rfl ?_
      refine gx_goto dX6_workOut_131 (tgt := 235) (by decide) ?_
      have e9 : sm_wv σ o va vb = (va + (σ.2.1 109 o 0), vb, va + (σ.2.1 109 o 0)) := by simp [sm_wv, k0, hab]
      rw [e9]
      exact cl_wo_t R hm V hg4 ho (va + (σ.2.1 109 o 0)) vb (va + (σ.2.1 109 o 0)) (w8)
    · have hab := (nI_eq (by have := gv_a V o; omega) (by have := gv_bk V o; omega)).mp hab
      refine gx_iload dX6_workOut_122 rfl ?_
      refine gx_goto dX6_workOut_124 (tgt := 129) (by decide) ?_
      refine gx_istore dX6_workOut_129 (by decide) rfl (L' := [some (.ref (A 6 0 0)), some (.int (nI g)), some (.int (nI o)), some (.int (nI (σ.1 107 o 0))), some (.int (nI (σ.1 108 o 0))), some (.int (va + (σ.2.1 109 o 0))), some (.int (va + (σ.2.1 109 o 0))), some (.int (va + (σ.2.1 109 o 0))), w8]) rfl ?_
      refine gx_goto dX6_workOut_131 (tgt := 235) (by decide) ?_
      have e9 : sm_wv σ o va vb = (va + (σ.2.1 109 o 0), va + (σ.2.1 109 o 0), va + (σ.2.1 109 o 0)) := by simp [sm_wv, k0, hab]
      rw [e9]
      exact cl_wo_t R hm V hg4 ho (va + (σ.2.1 109 o 0)) (va + (σ.2.1 109 o 0)) (va + (σ.2.1 109 o 0)) (w8)
def sm_va (σ : gs_T) (g o : Nat) : Int32 := if σ.1 107 o 0 % σ.1 100 0 0 = g then σ.2.1 103 (σ.1 107 o 0) 0 else σ.2.1 121 (4 * (40 * g + o) + σ.1 107 o 0 % σ.1 100 0 0) 0
def sm_vb (σ : gs_T) (g o : Nat) : Int32 := if σ.1 108 o 0 % σ.1 100 0 0 = g then σ.2.1 103 (σ.1 108 o 0) 0 else σ.2.1 122 (4 * (40 * g + o) + σ.1 108 o 0 % σ.1 100 0 0) 0
def sm_wo (σ : gs_T) (g o : Nat) : gs_T := sm_wt σ g o (sm_wv σ o (sm_va σ g o) (sm_vb σ g o)).1 (sm_wv σ o (sm_va σ g o) (sm_vb σ g o)).2.1 (sm_wv σ o (sm_va σ g o) (sm_vb σ g o)).2.2
set_option maxHeartbeats 4000000 in
theorem cc_X6_workOut {S : gx_S} {h : gx_H} {σ : gs_T} {A : gs_A} (R : gs_R h σ A) (hm : σ.1 31 0 0 = 1) (V : gv_V σ) {g o : Nat} (hg4 : g < 4) (ho : o < 40) : gx_Cn S gm_X6_workOut 3 [.ref (A 6 0 0), .int (nI g), .int (nI o)] h (fun r h' => gs_R h' (sm_wo σ g o) A ∧ gs_sm h h' ∧ r = none) := by
  refine gx_Cn.of gt_X6_workOut (by simp [Value.category]) (Nat.le_of_ble_eq_true rfl) ?_
  show gx_Ev S gm_X6_workOut 3 0 [some (.ref (A 6 0 0)), some (.int (nI g)), some (.int (nI o)), none, none, none, none, none, none] [] h _
  refine gx_aload_n dX6_workOut_0 rfl ?_
  refine gx_get dX6_workOut_1 gf_X6_26 (gs_g6 R hm) (v := .ref (A 27 0 0)) (rfl) ?_
  refine gx_iload_n dX6_workOut_4 rfl ?_
  refine gq_27 dX6_workOut_5 R hm (q := o) (rfl) (by first | omega | (have := gv_a V o; omega) | (have := gv_bk V o; omega) | (have := gv_cl V o; omega)) (v := nI (σ.1 107 o 0)) (rfl) ?_
  refine gx_istore_n dX6_workOut_6 (by decide) rfl (L' := [some (.ref (A 6 0 0)), some (.int (nI g)), some (.int (nI o)), some (.int (nI (σ.1 107 o 0))), none, none, none, none, none]) rfl ?_
  refine gx_aload_n dX6_workOut_7 rfl ?_
  refine gx_get dX6_workOut_8 gf_X6_29 (gs_g6 R hm) (v := .ref (A 28 0 0)) (rfl) ?_
  refine gx_iload_n dX6_workOut_11 rfl ?_
  refine gq_28 dX6_workOut_12 R hm (q := o) (rfl) (by first | omega | (have := gv_a V o; omega) | (have := gv_bk V o; omega) | (have := gv_cl V o; omega)) (v := nI (σ.1 108 o 0)) (rfl) ?_
  refine gx_istore dX6_workOut_13 (by decide) rfl (L' := [some (.ref (A 6 0 0)), some (.int (nI g)), some (.int (nI o)), some (.int (nI (σ.1 107 o 0))), some (.int (nI (σ.1 108 o 0))), none, none, none, none]) rfl ?_
  refine gx_iload_n dX6_workOut_15 rfl ?_
  refine gx_aload_n dX6_workOut_16 rfl ?_
  refine gx_get dX6_workOut_17 gf_X6_101 (gs_g6 R hm) (v := .int (nI (σ.1 100 0 0))) (rfl) ?_
  refine gx_irem dX6_workOut_20 (nI_ne0 (by have := gv_n2 V; omega) (by have := gv_n4 V; omega)) ?_
  rw [show ((nI (σ.1 107 o 0)) - (nI (σ.1 107 o 0)) / (nI (σ.1 100 0 0)) * (nI (σ.1 100 0 0)) : Int32) = nI (σ.1 107 o 0 % σ.1 100 0 0) from pk_rem (by have := gv_a V o; have := gv_bk V o; omega) (by have := gv_n2 V; omega) (by have := gv_n4 V; omega)]
  refine gx_iload_n dX6_workOut_21 rfl ?_
  refine gx_icmp_ne dX6_workOut_22 (tgt := 34) (by decide) (fun ha => ?_) (fun ha => ?_)
  · have ha : ¬ σ.1 107 o 0 % σ.1 100 0 0 = g := fun z => ha (congrArg nI z)
    refine gx_aload_n dX6_workOut_34 rfl ?_
    refine gx_get dX6_workOut_35 gf_X6_68 (gs_g6 R hm) (v := .ref (A 41 0 0)) (rfl) ?_
    refine gx_iload_n dX6_workOut_38 rfl ?_
    refine gx_iload_n dX6_workOut_39 rfl ?_
    refine gx_iload_n dX6_workOut_40 rfl ?_
    refine gx_aload_n dX6_workOut_41 rfl ?_
    refine gx_get dX6_workOut_42 gf_X6_101 (gs_g6 R hm) (v := .int (nI (σ.1 100 0 0))) (rfl) ?_
    refine gx_irem dX6_workOut_45 (nI_ne0 (by have := gv_n2 V; omega) (by have := gv_n4 V; omega)) ?_
    rw [show ((nI (σ.1 107 o 0)) - (nI (σ.1 107 o 0)) / (nI (σ.1 100 0 0)) * (nI (σ.1 100 0 0)) : Int32) = nI (σ.1 107 o 0 % σ.1 100 0 0) from pk_rem (by have := gv_a V o; have := gv_bk V o; omega) (by have := gv_n2 V; omega) (by have := gv_n4 V; omega)]
    refine gx_invS dX6_workOut_46 wm_X6_131 gt_X6_of ws_X6_of (As := [.int (nI g), .int (nI o), .int (nI (σ.1 107 o 0 % σ.1 100 0 0))]) (rest := [.ref (A 41 0 0)]) rfl rfl (Nat.le_of_ble_eq_true rfl) (by decide) (cc_X6_ofE (g := g) (o := o) (q := σ.1 107 o 0 % σ.1 100 0 0) (rfl) (rfl) (rfl)) (fun r1 h q1 => ?_)
    obtain ⟨rfl, rfl⟩ := q1
    show gx_Ev _ _ _ _ _ [.int (nI (4 * (40 * g + o) + (σ.1 107 o 0 % σ.1 100 0 0))), .ref (A 41 0 0)] _ _
    refine gq_41 dX6_workOut_49 R hm (q := 4 * (40 * g + o) + (σ.1 107 o 0 % σ.1 100 0 0)) (rfl) (by have := gv_n2 V; have := gv_n4 V; have := Nat.mod_lt (σ.1 107 o 0) (show 0 < σ.1 100 0 0 by omega); omega) (v := σ.2.1 121 (4 * (40 * g + o) + (σ.1 107 o 0 % σ.1 100 0 0)) 0) (rfl) ?_
    refine gx_istore dX6_workOut_50 (by decide) rfl (L' := [some (.ref (A 6 0 0)), some (.int (nI g)), some (.int (nI o)), some (.int (nI (σ.1 107 o 0))), some (.int (nI (σ.1 108 o 0))), some (.int (σ.2.1 121 (4 * (40 * g + o) + (σ.1 107 o 0 % σ.1 100 0 0)) 0)), none, none, none]) rfl ?_
    refine gx_iload dX6_workOut_52 rfl ?_
    refine gx_aload_n dX6_workOut_54 rfl ?_
    refine gx_get dX6_workOut_55 gf_X6_101 (gs_g6 R hm) (v := .int (nI (σ.1 100 0 0))) (rfl) ?_
    refine gx_irem dX6_workOut_58 (nI_ne0 (by have := gv_n2 V; omega) (by have := gv_n4 V; omega)) ?_
    rw [show ((nI (σ.1 108 o 0)) - (nI (σ.1 108 o 0)) / (nI (σ.1 100 0 0)) * (nI (σ.1 100 0 0)) : Int32) = nI (σ.1 108 o 0 % σ.1 100 0 0) from pk_rem (by have := gv_a V o; have := gv_bk V o; omega) (by have := gv_n2 V; omega) (by have := gv_n4 V; omega)]
    refine gx_iload_n dX6_workOut_59 rfl ?_
    refine gx_icmp_ne dX6_workOut_60 (tgt := 73) (by decide) (fun hb => ?_) (fun hb => ?_)
    · have hb : ¬ σ.1 108 o 0 % σ.1 100 0 0 = g := fun z => hb (congrArg nI z)
      refine gx_aload_n dX6_workOut_73 rfl ?_
      refine gx_get dX6_workOut_74 gf_X6_71 (gs_g6 R hm) (v := .ref (A 42 0 0)) (rfl) ?_
      refine gx_iload_n dX6_workOut_77 rfl ?_
      refine gx_iload_n dX6_workOut_78 rfl ?_
      refine gx_iload dX6_workOut_79 rfl ?_
      refine gx_aload_n dX6_workOut_81 rfl ?_
      refine gx_get dX6_workOut_82 gf_X6_101 (gs_g6 R hm) (v := .int (nI (σ.1 100 0 0))) (rfl) ?_
      refine gx_irem dX6_workOut_85 (nI_ne0 (by have := gv_n2 V; omega) (by have := gv_n4 V; omega)) ?_
      rw [show ((nI (σ.1 108 o 0)) - (nI (σ.1 108 o 0)) / (nI (σ.1 100 0 0)) * (nI (σ.1 100 0 0)) : Int32) = nI (σ.1 108 o 0 % σ.1 100 0 0) from pk_rem (by have := gv_a V o; have := gv_bk V o; omega) (by have := gv_n2 V; omega) (by have := gv_n4 V; omega)]
      refine gx_invS dX6_workOut_86 wm_X6_131 gt_X6_of ws_X6_of (As := [.int (nI g), .int (nI o), .int (nI (σ.1 108 o 0 % σ.1 100 0 0))]) (rest := [.ref (A 42 0 0)]) rfl rfl (Nat.le_of_ble_eq_true rfl) (by decide) (cc_X6_ofE (g := g) (o := o) (q := σ.1 108 o 0 % σ.1 100 0 0) (rfl) (rfl) (rfl)) (fun r1 h q1 => ?_)
      obtain ⟨rfl, rfl⟩ := q1
      show gx_Ev _ _ _ _ _ [.int (nI (4 * (40 * g + o) + (σ.1 108 o 0 % σ.1 100 0 0))), .ref (A 42 0 0)] _ _
      refine gq_42 dX6_workOut_89 R hm (q := 4 * (40 * g + o) + (σ.1 108 o 0 % σ.1 100 0 0)) (rfl) (by have := gv_n2 V; have := gv_n4 V; have := Nat.mod_lt (σ.1 108 o 0) (show 0 < σ.1 100 0 0 by omega); omega) (v := σ.2.1 122 (4 * (40 * g + o) + (σ.1 108 o 0 % σ.1 100 0 0)) 0) (rfl) ?_
      refine gx_istore dX6_workOut_90 (by decide) rfl (L' := [some (.ref (A 6 0 0)), some (.int (nI g)), some (.int (nI o)), some (.int (nI (σ.1 107 o 0))), some (.int (nI (σ.1 108 o 0))), some (.int (σ.2.1 121 (4 * (40 * g + o) + (σ.1 107 o 0 % σ.1 100 0 0)) 0)), some (.int (σ.2.1 122 (4 * (40 * g + o) + (σ.1 108 o 0 % σ.1 100 0 0)) 0)), none, none]) rfl ?_
      have e8 : sm_va σ g o = σ.2.1 121 (4 * (40 * g + o) + (σ.1 107 o 0 % σ.1 100 0 0)) 0 := by rw [sm_va, if_neg ha]
      have e9 : sm_vb σ g o = σ.2.1 122 (4 * (40 * g + o) + (σ.1 108 o 0 % σ.1 100 0 0)) 0 := by rw [sm_vb, if_neg hb]
      rw [sm_wo, e8, e9]
      exact cl_wo_m R hm V hg4 ho (σ.2.1 121 (4 * (40 * g + o) + (σ.1 107 o 0 % σ.1 100 0 0)) 0) (σ.2.1 122 (4 * (40 * g + o) + (σ.1 108 o 0 % σ.1 100 0 0)) 0) none none rfl
    · have hb := (nI_eq (by have := gv_n2 V; have := gv_n4 V; have := Nat.mod_lt (σ.1 108 o 0) (show 0 < σ.1 100 0 0 by omega); omega) (by omega)).mp hb
      refine gx_aload_n dX6_workOut_63 rfl ?_
      refine gx_get dX6_workOut_64 gf_X6_17 (gs_g6 R hm) (v := .ref (A 23 0 0)) (rfl) ?_
      refine gx_iload dX6_workOut_67 rfl ?_
      refine gq_23 dX6_workOut_69 R hm (q := σ.1 108 o 0) (rfl) (by first | omega | (have := gv_a V o; omega) | (have := gv_bk V o; omega) | (have := gv_cl V o; omega)) (v := σ.2.1 103 (σ.1 108 o 0) 0) (rfl) ?_
      refine gx_goto dX6_workOut_70 (tgt := 90) (by decide) ?_
      refine gx_istore dX6_workOut_90 (by decide) rfl (L' := [some (.ref (A 6 0 0)), some (.int (nI g)), some (.int (nI o)), some (.int (nI (σ.1 107 o 0))), some (.int (nI (σ.1 108 o 0))), some (.int (σ.2.1 121 (4 * (40 * g + o) + (σ.1 107 o 0 % σ.1 100 0 0)) 0)), some (.int (σ.2.1 103 (σ.1 108 o 0) 0)), none, none]) rfl ?_
      have e8 : sm_va σ g o = σ.2.1 121 (4 * (40 * g + o) + (σ.1 107 o 0 % σ.1 100 0 0)) 0 := by rw [sm_va, if_neg ha]
      have e9 : sm_vb σ g o = σ.2.1 103 (σ.1 108 o 0) 0 := by rw [sm_vb, if_pos hb]
      rw [sm_wo, e8, e9]
      exact cl_wo_m R hm V hg4 ho (σ.2.1 121 (4 * (40 * g + o) + (σ.1 107 o 0 % σ.1 100 0 0)) 0) (σ.2.1 103 (σ.1 108 o 0) 0) none none rfl
  · have ha := (nI_eq (by have := gv_n2 V; have := gv_n4 V; have := Nat.mod_lt (σ.1 107 o 0) (show 0 < σ.1 100 0 0 by omega); omega) (by omega)).mp ha
    refine gx_aload_n dX6_workOut_25 rfl ?_
    refine gx_get dX6_workOut_26 gf_X6_17 (gs_g6 R hm) (v := .ref (A 23 0 0)) (rfl) ?_
    refine gx_iload_n dX6_workOut_29 rfl ?_
    refine gq_23 dX6_workOut_30 R hm (q := σ.1 107 o 0) (rfl) (by first | omega | (have := gv_a V o; omega) | (have := gv_bk V o; omega) | (have := gv_cl V o; omega)) (v := σ.2.1 103 (σ.1 107 o 0) 0) (rfl) ?_
    refine gx_goto dX6_workOut_31 (tgt := 50) (by decide) ?_
    refine gx_istore dX6_workOut_50 (by decide) rfl (L' := [some (.ref (A 6 0 0)), some (.int (nI g)), some (.int (nI o)), some (.int (nI (σ.1 107 o 0))), some (.int (nI (σ.1 108 o 0))), some (.int (σ.2.1 103 (σ.1 107 o 0) 0)), none, none, none]) rfl ?_
    refine gx_iload dX6_workOut_52 rfl ?_
    refine gx_aload_n dX6_workOut_54 rfl ?_
    refine gx_get dX6_workOut_55 gf_X6_101 (gs_g6 R hm) (v := .int (nI (σ.1 100 0 0))) (rfl) ?_
    refine gx_irem dX6_workOut_58 (nI_ne0 (by have := gv_n2 V; omega) (by have := gv_n4 V; omega)) ?_
    rw [show ((nI (σ.1 108 o 0)) - (nI (σ.1 108 o 0)) / (nI (σ.1 100 0 0)) * (nI (σ.1 100 0 0)) : Int32) = nI (σ.1 108 o 0 % σ.1 100 0 0) from pk_rem (by have := gv_a V o; have := gv_bk V o; omega) (by have := gv_n2 V; omega) (by have := gv_n4 V; omega)]
    refine gx_iload_n dX6_workOut_59 rfl ?_
    refine gx_icmp_ne dX6_workOut_60 (tgt := 73) (by decide) (fun hb => ?_) (fun hb => ?_)
    · have hb : ¬ σ.1 108 o 0 % σ.1 100 0 0 = g := fun z => hb (congrArg nI z)
      refine gx_aload_n dX6_workOut_73 rfl ?_
      refine gx_get dX6_workOut_74 gf_X6_71 (gs_g6 R hm) (v := .ref (A 42 0 0)) (rfl) ?_
      refine gx_iload_n dX6_workOut_77 rfl ?_
      refine gx_iload_n dX6_workOut_78 rfl ?_
      refine gx_iload dX6_workOut_79 rfl ?_
      refine gx_aload_n dX6_workOut_81 rfl ?_
      refine gx_get dX6_workOut_82 gf_X6_101 (gs_g6 R hm) (v := .int (nI (σ.1 100 0 0))) (rfl) ?_
      refine gx_irem dX6_workOut_85 (nI_ne0 (by have := gv_n2 V; omega) (by have := gv_n4 V; omega)) ?_
      rw [show ((nI (σ.1 108 o 0)) - (nI (σ.1 108 o 0)) / (nI (σ.1 100 0 0)) * (nI (σ.1 100 0 0)) : Int32) = nI (σ.1 108 o 0 % σ.1 100 0 0) from pk_rem (by have := gv_a V o; have := gv_bk V o; omega) (by have := gv_n2 V; omega) (by have := gv_n4 V; omega)]
      refine gx_invS dX6_workOut_86 wm_X6_131 gt_X6_of ws_X6_of (As := [.int (nI g), .int (nI o), .int (nI (σ.1 108 o 0 % σ.1 100 0 0))]) (rest := [.ref (A 42 0 0)]) rfl rfl (Nat.le_of_ble_eq_true rfl) (by decide) (cc_X6_ofE (g := g) (o := o) (q := σ.1 108 o 0 % σ.1 100 0 0) (rfl) (rfl) (rfl)) (fun r1 h q1 => ?_)
      obtain ⟨rfl, rfl⟩ := q1
      show gx_Ev _ _ _ _ _ [.int (nI (4 * (40 * g + o) + (σ.1 108 o 0 % σ.1 100 0 0))), .ref (A 42 0 0)] _ _
      refine gq_42 dX6_workOut_89 R hm (q := 4 * (40 * g + o) + (σ.1 108 o 0 % σ.1 100 0 0)) (rfl) (by have := gv_n2 V; have := gv_n4 V; have := Nat.mod_lt (σ.1 108 o 0) (show 0 < σ.1 100 0 0 by omega); omega) (v := σ.2.1 122 (4 * (40 * g + o) + (σ.1 108 o 0 % σ.1 100 0 0)) 0) (rfl) ?_
      refine gx_istore dX6_workOut_90 (by decide) rfl (L' := [some (.ref (A 6 0 0)), some (.int (nI g)), some (.int (nI o)), some (.int (nI (σ.1 107 o 0))), some (.int (nI (σ.1 108 o 0))), some (.int (σ.2.1 103 (σ.1 107 o 0) 0)), some (.int (σ.2.1 122 (4 * (40 * g + o) + (σ.1 108 o 0 % σ.1 100 0 0)) 0)), none, none]) rfl ?_
      have e8 : sm_va σ g o = σ.2.1 103 (σ.1 107 o 0) 0 := by rw [sm_va, if_pos ha]
      have e9 : sm_vb σ g o = σ.2.1 122 (4 * (40 * g + o) + (σ.1 108 o 0 % σ.1 100 0 0)) 0 := by rw [sm_vb, if_neg hb]
      rw [sm_wo, e8, e9]
      exact cl_wo_m R hm V hg4 ho (σ.2.1 103 (σ.1 107 o 0) 0) (σ.2.1 122 (4 * (40 * g + o) + (σ.1 108 o 0 % σ.1 100 0 0)) 0) none none rfl
    · have hb := (nI_eq (by have := gv_n2 V; have := gv_n4 V; have := Nat.mod_lt (σ.1 108 o 0) (show 0 < σ.1 100 0 0 by omega); omega) (by omega)).mp hb
      refine gx_aload_n dX6_workOut_63 rfl ?_
      refine gx_get dX6_workOut_64 gf_X6_17 (gs_g6 R hm) (v := .ref (A 23 0 0)) (rfl) ?_
      refine gx_iload dX6_workOut_67 rfl ?_
      refine gq_23 dX6_workOut_69 R hm (q := σ.1 108 o 0) (rfl) (by first | omega | (have := gv_a V o; omega) | (have := gv_bk V o; omega) | (have := gv_cl V o; omega)) (v := σ.2.1 103 (σ.1 108 o 0) 0) (rfl) ?_
      refine gx_goto dX6_workOut_70 (tgt := 90) (by decide) ?_
      refine gx_istore dX6_workOut_90 (by decide) rfl (L' := [some (.ref (A 6 0 0)), some (.int (nI g)), some (.int (nI o)), some (.int (nI (σ.1 107 o 0))), some (.int (nI (σ.1 108 o 0))), some (.int (σ.2.1 103 (σ.1 107 o 0) 0)), some (.int (σ.2.1 103 (σ.1 108 o 0) 0)), none, none]) rfl ?_
      have e8 : sm_va σ g o = σ.2.1 103 (σ.1 107 o 0) 0 := by rw [sm_va, if_pos ha]
      have e9 : sm_vb σ g o = σ.2.1 103 (σ.1 108 o 0) 0 := by rw [sm_vb, if_pos hb]
      rw [sm_wo, e8, e9]
      exact cl_wo_m R hm V hg4 ho (σ.2.1 103 (σ.1 107 o 0) 0) (σ.2.1 103 (σ.1 108 o 0) 0) none none rfl
