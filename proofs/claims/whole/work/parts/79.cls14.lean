/-! the class: putStarts, send -/
theorem sc_np_f {σ : gs_T} {g q t : Nat} (h6 : t ≠ 6) (h7 : t ≠ 7) : (sc_np σ g q).1 t = σ.1 t := (gs_u_ne h7).trans (gs_u_ne h6)
theorem sc_np_7 {σ : gs_T} {g q : Nat} (x y : Nat) : (sc_np σ g q).1 7 x y = if x = g ∧ y = q then 0 else σ.1 7 x y := by
  show gs_u (gs_u σ.1 6 g q 1) 7 g q 0 7 x y = _
  rw [gs_u_at, gs_u_ne (by decide)]
theorem gw_np {σ : gs_T} (W : gw_W σ) {g q : Nat} (hg : g < σ.1 0 0 0) (hq : q < σ.1 1 0 0) : gw_W (sc_np σ g q) := by
  have E : ∀ t, t ≠ 6 → t ≠ 7 → (sc_np σ g q).1 t = σ.1 t := fun t h6 h7 => sc_np_f h6 h7
  have k6 : ∀ x y, σ.1 6 x y = 1 → (sc_np σ g q).1 6 x y = 1 := fun x y h => by rw [sc_np_6]; split <;> first | rfl | exact h
  obtain ⟨w1, w2, w3, w4, w5, w6, w7, w8, w9, w10, w11, w12, w13, w14⟩ := W
  refine ⟨by rw [E 0 (by decide) (by decide), E 1 (by decide) (by decide), E 2 (by decide) (by decide)]; exact w1, by rw [E 0 (by decide) (by decide), E 15 (by decide) (by decide)]; exact w2, by rw [E 1 (by decide) (by decide), E 11 (by decide) (by decide)]; exact w3, by rw [E 2 (by decide) (by decide), E 10 (by decide) (by decide)]; exact w4, ?_, ?_, ?_, ?_, by rw [E 0 (by decide) (by decide), E 3 (by decide) (by decide), E 5 (by decide) (by decide)]; exact w9, by rw [E 3 (by decide) (by decide)]; exact w10, by rw [E 3 (by decide) (by decide), E 4 (by decide) (by decide)]; exact w11, by rw [E 12 (by decide) (by decide)]; exact w12, by rw [E 13 (by decide) (by decide)]; exact w13, by rw [E 14 (by decide) (by decide)]; exact w14⟩
  · intro i hi
    rw [E 10 (by decide) (by decide)] at hi
    rw [E 8 (by decide) (by decide), E 9 (by decide) (by decide)]
    exact k6 _ _ (w5 i hi)
  · intro x y hxy
    rw [E 0 (by decide) (by decide), E 1 (by decide) (by decide)]
    rw [sc_np_6] at hxy
    split at hxy
    · rename_i e; rw [e.1, e.2]; exact ⟨hg, hq⟩
    · exact w6 x y hxy
  · intro x y z hxy hz
    rw [sc_np_7] at hz
    rw [sc_np_6] at hxy
    split at hz
    · cases hz
    · rename_i e
      rw [if_neg e] at hxy
      exact k6 _ _ (w7 x y z hxy hz)
  · intro x k z hz
    rw [E 5 (by decide) (by decide)] at hz
    exact k6 _ _ (w8 x k z hz)
theorem gw_n7 {σ : gs_T} (W : gw_W σ) {g q s : Nat} (hs : σ.1 6 s q = 1) : gw_W (gs_n σ 7 g q (s + 1)) := by
  have E : ∀ t, t ≠ 7 → (gs_n σ 7 g q (s + 1)).1 t = σ.1 t := fun t h7 => gs_u_ne h7
  have e7 : ∀ x y, (gs_n σ 7 g q (s + 1)).1 7 x y = if x = g ∧ y = q then s + 1 else σ.1 7 x y := fun x y => gs_u_at
  obtain ⟨w1, w2, w3, w4, w5, w6, w7, w8, w9, w10, w11, w12, w13, w14⟩ := W
  refine ⟨by rw [E 0 (by decide), E 1 (by decide), E 2 (by decide)]; exact w1, by rw [E 0 (by decide), E 15 (by decide)]; exact w2, by rw [E 1 (by decide), E 11 (by decide)]; exact w3, by rw [E 2 (by decide), E 10 (by decide)]; exact w4, by rw [E 6 (by decide), E 8 (by decide), E 9 (by decide), E 10 (by decide)]; exact w5, by rw [E 6 (by decide), E 0 (by decide), E 1 (by decide)]; exact w6, ?_, by rw [E 6 (by decide), E 5 (by decide)]; exact w8, by rw [E 0 (by decide), E 3 (by decide), E 5 (by decide)]; exact w9, by rw [E 3 (by decide)]; exact w10, by rw [E 3 (by decide), E 4 (by decide)]; exact w11, by rw [E 12 (by decide)]; exact w12, by rw [E 13 (by decide)]; exact w13, by rw [E 14 (by decide)]; exact w14⟩
  intro x y z hxy hz
  rw [E 6 (by decide)] at hxy ⊢
  rw [e7] at hz
  split at hz
  · rename_i e
    have : z = s := by omega
    rw [this, e.2]; exact hs
  · exact w7 x y z hxy hz
theorem gw_nw {σ : gs_T} (W : gw_W σ) (n : Nat) : gw_W (sc_nw σ n) := gw_oth (gw_oth W (by decide)) (by decide)
def sc_ps3 (σ : gs_T) (f s o : Nat) : gs_T := gs_n (gs_n (sc_pm σ 0 (-1) s o 0) 7 f o (s + 1)) 7 s o (f + 1)
def sc_ps2 (σ : gs_T) (f s o : Nat) : gs_T := if f = s then sc_pm σ 0 (-1) f o 0 else sc_ps3 (sc_np (sc_nw (sc_pm σ 0 (-1) f o 0) 11) s o) f s o
def sc_kf (σ : gs_T) (o : Nat) : Nat := if σ.1 13 o 0 % σ.1 0 0 0 ≤ σ.1 14 o 0 % σ.1 0 0 0 then σ.1 13 o 0 % σ.1 0 0 0 else σ.1 14 o 0 % σ.1 0 0 0
def sc_ks (σ : gs_T) (o : Nat) : Nat := if σ.1 13 o 0 % σ.1 0 0 0 ≤ σ.1 14 o 0 % σ.1 0 0 0 then σ.1 14 o 0 % σ.1 0 0 0 else σ.1 13 o 0 % σ.1 0 0 0
def sc_ps (σ : gs_T) (o : Nat) : gs_T := sc_ps2 (sc_np (sc_nw σ 11) (sc_kf σ o) o) (sc_kf σ o) (sc_ks σ o) o
set_option maxHeartbeats 4000000 in
theorem cl_ps3 {S : gx_S} {h : gx_H} {σ : gs_T} {A : gs_A} (R : gs_R h σ A) (W : gw_W σ) {ga gb f s o : Nat} {t : Int32} (hf : σ.1 6 f o = 1) (hs : σ.1 6 s o = 1) : gx_Ev S gm_X5_putStarts 3 91 [some (.ref (A 5 0 0)), some (.ref (A 3 o 0)), some (.ref (A 1 ga 0)), some (.ref (A 1 gb 0)), some (.int t), some (.ref (A 4 f o)), none] [.ref (A 4 s o)] h (fun r h' => gx_rt none r ∧ ∃ A1 : gs_A, gs_R h' (sc_ps3 σ f s o) A1 ∧ (∀ k, k ≠ 4 → A1 k = A k) ∧ r = none) := by
  refine gx_astore dX5_putStarts_91 (by decide) rfl (L' := [some (.ref (A 5 0 0)), some (.ref (A 3 o 0)), some (.ref (A 1 ga 0)), some (.ref (A 1 gb 0)), some (.int t), some (.ref (A 4 f o)), some (.ref (A 4 s o))]) rfl ?_
  refine gx_aload_n dX5_putStarts_93 rfl ?_
  refine gx_get dX5_putStarts_94 gf_X5_25 (gs_g5 R ) (v := .ref (A 0 0 0)) (rfl) ?_
  have e20 := R.2.1.1
  have hfr := R.fresh
  refine gx_new dX5_putStarts_97 gk_X2 wc_X5_108 wn_X2 wi_X2 (fs := [.int 0, .int 0, .null, .int 0]) (by decide) ?_
  have hraw := gx_push_at h 4 (gx_ob 2 [.int 0, .int 0, .null, .int 0])
  have hfr := hfr.nw 4
  have R := R.push 4 (gx_ob 2 [.int 0, .int 0, .null, .int 0])
  refine gx_dup dX5_putStarts_100 rfl ?_
  refine gx_iconst dX5_putStarts_101 (v := 0) (by decide) ?_
  refine gx_iconst dX5_putStarts_102 (v := (-1)) (by decide) ?_
  refine gx_aload dX5_putStarts_103 rfl ?_
  refine gx_iconst dX5_putStarts_105 (v := 0) (by decide) ?_
  refine gx_invI dX5_putStarts_106 wm_X5_213 gt_X2_init rfl rfl wy_X2_init (As := [.int 0, .int (-1), .ref (A 4 s o), .int 0]) (rest := [.ref h.1, .ref (A 0 0 0)]) rfl rfl (Nat.le_of_ble_eq_true rfl) (by decide) (cc_X2_init (h := gx_push h 4 (gx_ob 2 [.int 0, .int 0, .null, .int 0])) (a := h.1) 0 (-1) (A 4 s o) 0 hraw) (fun r1 hN q1 => ?_)
  obtain ⟨rfl, rfl⟩ := q1
  show gx_Ev _ _ _ _ _ [.ref h.1, .ref (A 0 0 0)] _ _
  have R := R.raw hfr (gx_ob 2 [.int 0, .int (-1), .ref (A 4 s o), .int 0])
  have hc9 := gx_set_at (gx_push h 4 (gx_ob 2 [.int 0, .int 0, .null, .int 0])) h.1 (gx_ob 2 [.int 0, .int (-1), .ref (A 4 s o), .int 0])
  refine gx_invV dX5_putStarts_109 wm_X5_216 gt_X0_put wy_X0_put wl_X0_put (ci := 0) rfl rfl (gs_g0 R) (As := [.ref h.1]) (rest := []) rfl rfl (Nat.le_of_ble_eq_true rfl) (by decide) (cc_X0_put R (gw_oth (gw_oth W (by decide)) (by decide)) (a := h.1) (Nat.lt_succ_self _) hc9) (fun r1 hN q1 => ?_)
  obtain ⟨R, rfl⟩ := q1
  rw [e20] at R
  have R : gs_R _ (sc_pm σ 0 (-1) s o 0) A := R
  show gx_Ev _ _ _ _ _ [] _ _
  clear hc9 hfr hraw e20
  revert R
  generalize hN = h
  intro R
  have hf2 : (sc_pm σ 0 (-1) s o 0).1 6 f o = 1 := by rw [sc_pm_f (by decide)]; exact hf
  have hs2 : (sc_pm σ 0 (-1) s o 0).1 6 s o = 1 := by rw [sc_pm_f (by decide)]; exact hs
  refine gx_aload dX5_putStarts_112 rfl ?_
  refine gx_aload dX5_putStarts_114 rfl ?_
  refine gp_N7 (σ := (sc_pm σ 0 (-1) s o 0)) (g := s) hf2 dX5_putStarts_116 gf_X5_220 R (fun h R hs0 => ?_)
  refine gx_aload dX5_putStarts_119 rfl ?_
  refine gx_aload dX5_putStarts_121 rfl ?_
  refine gp_N7 (σ := (gs_n (sc_pm σ 0 (-1) s o 0) 7 f o (s + 1))) (g := f) hs2 dX5_putStarts_123 gf_X5_220 R (fun h R hs1 => ?_)
  refine gx_return dX5_putStarts_126 ?_
  exact ⟨rfl, A, R, fun k hk => rfl, rfl⟩
set_option maxHeartbeats 4000000 in
theorem cl_ps2 {S : gx_S} {h : gx_H} {σ : gs_T} {A : gs_A} (R : gs_R h σ A) (W : gw_W σ) {ga gb f s o : Nat} {t : Int32} (hh : ¬ σ.1 32 0 0 = 1) (hf : σ.1 6 f o = 1) (hga : ga < σ.1 0 0 0) (hgb : gb < σ.1 0 0 0) (hts : (t = 1 ∧ f = ga ∧ s = gb) ∨ (t = 0 ∧ f = gb ∧ s = ga)) (ho : o < σ.1 1 0 0) (hns : f ≠ s → ¬ σ.1 6 s o = 1) : gx_Ev S gm_X5_putStarts 3 50 [some (.ref (A 5 0 0)), some (.ref (A 3 o 0)), some (.ref (A 1 ga 0)), some (.ref (A 1 gb 0)), some (.int t), none, none] [.ref (A 4 f o)] h (fun r h' => gx_rt none r ∧ ∃ A1 : gs_A, gs_R h' (sc_ps2 σ f s o) A1 ∧ (∀ k, k ≠ 4 → A1 k = A k) ∧ r = none) := by
  have hl := gw_o W ho
  have la := gw_g W hga
  have lb := gw_g W hgb
  have hcn := gw_cnt W
  rcases hts with ⟨rfl, hf0, hs⟩ | ⟨rfl, hf0, hs⟩
  · refine gx_astore dX5_putStarts_50 (by decide) rfl (L' := [some (.ref (A 5 0 0)), some (.ref (A 3 o 0)), some (.ref (A 1 ga 0)), some (.ref (A 1 gb 0)), some (.int 1), some (.ref (A 4 f o)), none]) rfl ?_
    refine gx_aload_n dX5_putStarts_52 rfl ?_
    refine gx_get dX5_putStarts_53 gf_X5_25 (gs_g5 R ) (v := .ref (A 0 0 0)) (rfl) ?_
    have e20 := R.2.1.1
    have hfr := R.fresh
    refine gx_new dX5_putStarts_56 gk_X2 wc_X5_108 wn_X2 wi_X2 (fs := [.int 0, .int 0, .null, .int 0]) (by decide) ?_
    have hraw := gx_push_at h 4 (gx_ob 2 [.int 0, .int 0, .null, .int 0])
    have hfr := hfr.nw 4
    have R := R.push 4 (gx_ob 2 [.int 0, .int 0, .null, .int 0])
    refine gx_dup dX5_putStarts_59 rfl ?_
    refine gx_iconst dX5_putStarts_60 (v := 0) (by decide) ?_
    refine gx_iconst dX5_putStarts_61 (v := (-1)) (by decide) ?_
    refine gx_aload dX5_putStarts_62 rfl ?_
    refine gx_iconst dX5_putStarts_64 (v := 0) (by decide) ?_
    refine gx_invI dX5_putStarts_65 wm_X5_213 gt_X2_init rfl rfl wy_X2_init (As := [.int 0, .int (-1), .ref (A 4 f o), .int 0]) (rest := [.ref h.1, .ref (A 0 0 0)]) rfl rfl (Nat.le_of_ble_eq_true rfl) (by decide) (cc_X2_init (h := gx_push h 4 (gx_ob 2 [.int 0, .int 0, .null, .int 0])) (a := h.1) 0 (-1) (A 4 f o) 0 hraw) (fun r1 hN q1 => ?_)
    obtain ⟨rfl, rfl⟩ := q1
    show gx_Ev _ _ _ _ _ [.ref h.1, .ref (A 0 0 0)] _ _
    have R := R.raw hfr (gx_ob 2 [.int 0, .int (-1), .ref (A 4 f o), .int 0])
    have hc9 := gx_set_at (gx_push h 4 (gx_ob 2 [.int 0, .int 0, .null, .int 0])) h.1 (gx_ob 2 [.int 0, .int (-1), .ref (A 4 f o), .int 0])
    refine gx_invV dX5_putStarts_68 wm_X5_216 gt_X0_put wy_X0_put wl_X0_put (ci := 0) rfl rfl (gs_g0 R) (As := [.ref h.1]) (rest := []) rfl rfl (Nat.le_of_ble_eq_true rfl) (by decide) (cc_X0_put R (gw_oth (gw_oth W (by decide)) (by decide)) (a := h.1) (Nat.lt_succ_self _) hc9) (fun r1 hN q1 => ?_)
    obtain ⟨R, rfl⟩ := q1
    rw [e20] at R
    have R : gs_R _ (sc_pm σ 0 (-1) f o 0) A := R
    show gx_Ev _ _ _ _ _ [] _ _
    clear hc9 hfr hraw e20
    revert R
    generalize hN = h
    intro R
    have W2 := gw_pm (k := 0) (f := -1) (c := 0) W hf
    have hh2 : ¬ (sc_pm σ 0 (-1) f o 0).1 32 0 0 = 1 := by rw [sc_pm_f (by decide)]; exact hh
    have hf2 : (sc_pm σ 0 (-1) f o 0).1 6 f o = 1 := by rw [sc_pm_f (by decide)]; exact hf
    have hl2 : (sc_pm σ 0 (-1) f o 0).1 11 o 0 = 1 := by rw [sc_pm_f (by decide)]; exact hl
    have la : (sc_pm σ 0 (-1) f o 0).1 15 ga 0 = 1 := by rw [sc_pm_f (by decide)]; exact la
    have lb : (sc_pm σ 0 (-1) f o 0).1 15 gb 0 = 1 := by rw [sc_pm_f (by decide)]; exact lb
    refine gx_aload_n dX5_putStarts_71 rfl ?_
    refine gx_aload_n dX5_putStarts_72 rfl ?_
    refine gx_acmp_ne dX5_putStarts_73 (tgt := 77) (by decide) (fun hne => ?_) (fun hne => ?_)
    · have hgg : ga ≠ gb := fun e => hne (by rw [e])
      have hfs : f ≠ s := by omega
      have hnl : ¬ (sc_pm σ 0 (-1) f o 0).1 6 gb o = 1 := by rw [sc_pm_f (by decide), ← hs]; exact hns hfs
      refine gx_iload dX5_putStarts_77 rfl ?_
      refine gx_if_eq dX5_putStarts_79 (tgt := 86) (by decide) (fun hc2 => absurd hc2 (by decide)) (fun hc2 => ?_)
      refine gx_aload_n dX5_putStarts_82 rfl ?_
      refine gx_goto dX5_putStarts_83 (tgt := 87) (by decide) ?_
      refine gx_aload_n dX5_putStarts_87 rfl ?_
      refine gx_invV dX5_putStarts_88 wm_X5_209 gt_X1_partFor wy_X1_partFor wl_X1_partFor (ci := 1) rfl rfl (gs_g1 R lb) (As := [.ref (A 3 o 0)]) (rest := []) rfl rfl (Nat.le_of_ble_eq_true rfl) (by decide) (cc_X1_partFor R W2 hh2 lb hl2 (show o < 40 by omega) hnl) (fun r1 h q1 => ?_)
      obtain ⟨A1, R, hA, hA4, rfl⟩ := q1
      rw [← hA4 f o hf2, ← hA 5 (by decide), ← hA 3 (by decide), ← hA 1 (by decide)]
      have W3 : gw_W (sc_np (sc_nw (sc_pm σ 0 (-1) f o 0) 11) gb o) := gw_np (gw_nw W2 11) (by show gb < (sc_pm σ 0 (-1) f o 0).1 0 0 0; rw [sc_pm_f (by decide)]; exact hgb) (by show o < (sc_pm σ 0 (-1) f o 0).1 1 0 0; rw [sc_pm_f (by decide)]; exact ho)
      have hf3 : (sc_np (sc_nw (sc_pm σ 0 (-1) f o 0) 11) gb o).1 6 f o = 1 := by rw [sc_np_6]; split <;> first | rfl | exact hf2
      have hs3 : (sc_np (sc_nw (sc_pm σ 0 (-1) f o 0) 11) gb o).1 6 gb o = 1 := by rw [sc_np_6, if_pos ⟨rfl, rfl⟩]
      have k9 := cl_ps3 (S := S) (ga := ga) (gb := gb) (t := 1) R W3 hf3 hs3
      refine k9.mono (fun r h9 q9 => ?_)
      obtain ⟨q1, A2, R2, hA2, q4⟩ := q9
      exact ⟨q1, A2, by rw [sc_ps2, if_neg hfs, hs]; exact R2, fun k hk => (hA2 k hk).trans (hA k hk), q4⟩
    · have hgg : ga = gb := Classical.byContradiction (fun hn => R.2.2 1 ga 0 1 gb 0 rfl rfl ⟨la, rfl⟩ ⟨lb, rfl⟩ hne |> fun e => hn e.2.1)
      refine gx_return dX5_putStarts_76 ?_
      have hfs : f = s := by omega
      exact ⟨rfl, A, by rw [sc_ps2, if_pos hfs]; exact R, fun k hk => rfl, rfl⟩
  · refine gx_astore dX5_putStarts_50 (by decide) rfl (L' := [some (.ref (A 5 0 0)), some (.ref (A 3 o 0)), some (.ref (A 1 ga 0)), some (.ref (A 1 gb 0)), some (.int 0), some (.ref (A 4 f o)), none]) rfl ?_
    refine gx_aload_n dX5_putStarts_52 rfl ?_
    refine gx_get dX5_putStarts_53 gf_X5_25 (gs_g5 R ) (v := .ref (A 0 0 0)) (rfl) ?_
    have e20 := R.2.1.1
    have hfr := R.fresh
    refine gx_new dX5_putStarts_56 gk_X2 wc_X5_108 wn_X2 wi_X2 (fs := [.int 0, .int 0, .null, .int 0]) (by decide) ?_
    have hraw := gx_push_at h 4 (gx_ob 2 [.int 0, .int 0, .null, .int 0])
    have hfr := hfr.nw 4
    have R := R.push 4 (gx_ob 2 [.int 0, .int 0, .null, .int 0])
    refine gx_dup dX5_putStarts_59 rfl ?_
    refine gx_iconst dX5_putStarts_60 (v := 0) (by decide) ?_
    refine gx_iconst dX5_putStarts_61 (v := (-1)) (by decide) ?_
    refine gx_aload dX5_putStarts_62 rfl ?_
    refine gx_iconst dX5_putStarts_64 (v := 0) (by decide) ?_
    refine gx_invI dX5_putStarts_65 wm_X5_213 gt_X2_init rfl rfl wy_X2_init (As := [.int 0, .int (-1), .ref (A 4 f o), .int 0]) (rest := [.ref h.1, .ref (A 0 0 0)]) rfl rfl (Nat.le_of_ble_eq_true rfl) (by decide) (cc_X2_init (h := gx_push h 4 (gx_ob 2 [.int 0, .int 0, .null, .int 0])) (a := h.1) 0 (-1) (A 4 f o) 0 hraw) (fun r1 hN q1 => ?_)
    obtain ⟨rfl, rfl⟩ := q1
    show gx_Ev _ _ _ _ _ [.ref h.1, .ref (A 0 0 0)] _ _
    have R := R.raw hfr (gx_ob 2 [.int 0, .int (-1), .ref (A 4 f o), .int 0])
    have hc9 := gx_set_at (gx_push h 4 (gx_ob 2 [.int 0, .int 0, .null, .int 0])) h.1 (gx_ob 2 [.int 0, .int (-1), .ref (A 4 f o), .int 0])
    refine gx_invV dX5_putStarts_68 wm_X5_216 gt_X0_put wy_X0_put wl_X0_put (ci := 0) rfl rfl (gs_g0 R) (As := [.ref h.1]) (rest := []) rfl rfl (Nat.le_of_ble_eq_true rfl) (by decide) (cc_X0_put R (gw_oth (gw_oth W (by decide)) (by decide)) (a := h.1) (Nat.lt_succ_self _) hc9) (fun r1 hN q1 => ?_)
    obtain ⟨R, rfl⟩ := q1
    rw [e20] at R
    have R : gs_R _ (sc_pm σ 0 (-1) f o 0) A := R
    show gx_Ev _ _ _ _ _ [] _ _
    clear hc9 hfr hraw e20
    revert R
    generalize hN = h
    intro R
    have W2 := gw_pm (k := 0) (f := -1) (c := 0) W hf
    have hh2 : ¬ (sc_pm σ 0 (-1) f o 0).1 32 0 0 = 1 := by rw [sc_pm_f (by decide)]; exact hh
    have hf2 : (sc_pm σ 0 (-1) f o 0).1 6 f o = 1 := by rw [sc_pm_f (by decide)]; exact hf
    have hl2 : (sc_pm σ 0 (-1) f o 0).1 11 o 0 = 1 := by rw [sc_pm_f (by decide)]; exact hl
    have la : (sc_pm σ 0 (-1) f o 0).1 15 ga 0 = 1 := by rw [sc_pm_f (by decide)]; exact la
    have lb : (sc_pm σ 0 (-1) f o 0).1 15 gb 0 = 1 := by rw [sc_pm_f (by decide)]; exact lb
    refine gx_aload_n dX5_putStarts_71 rfl ?_
    refine gx_aload_n dX5_putStarts_72 rfl ?_
    refine gx_acmp_ne dX5_putStarts_73 (tgt := 77) (by decide) (fun hne => ?_) (fun hne => ?_)
    · have hgg : ga ≠ gb := fun e => hne (by rw [e])
      have hfs : f ≠ s := by omega
      have hnl : ¬ (sc_pm σ 0 (-1) f o 0).1 6 ga o = 1 := by rw [sc_pm_f (by decide), ← hs]; exact hns hfs
      refine gx_iload dX5_putStarts_77 rfl ?_
      refine gx_if_eq dX5_putStarts_79 (tgt := 86) (by decide) (fun hc2 => ?_) (fun hc2 => absurd hc2 (by decide))
      refine gx_aload_n dX5_putStarts_86 rfl ?_
      refine gx_aload_n dX5_putStarts_87 rfl ?_
      refine gx_invV dX5_putStarts_88 wm_X5_209 gt_X1_partFor wy_X1_partFor wl_X1_partFor (ci := 1) rfl rfl (gs_g1 R la) (As := [.ref (A 3 o 0)]) (rest := []) rfl rfl (Nat.le_of_ble_eq_true rfl) (by decide) (cc_X1_partFor R W2 hh2 la hl2 (show o < 40 by omega) hnl) (fun r1 h q1 => ?_)
      obtain ⟨A1, R, hA, hA4, rfl⟩ := q1
      rw [← hA4 f o hf2, ← hA 5 (by decide), ← hA 3 (by decide), ← hA 1 (by decide)]
      have W3 : gw_W (sc_np (sc_nw (sc_pm σ 0 (-1) f o 0) 11) ga o) := gw_np (gw_nw W2 11) (by show ga < (sc_pm σ 0 (-1) f o 0).1 0 0 0; rw [sc_pm_f (by decide)]; exact hga) (by show o < (sc_pm σ 0 (-1) f o 0).1 1 0 0; rw [sc_pm_f (by decide)]; exact ho)
      have hf3 : (sc_np (sc_nw (sc_pm σ 0 (-1) f o 0) 11) ga o).1 6 f o = 1 := by rw [sc_np_6]; split <;> first | rfl | exact hf2
      have hs3 : (sc_np (sc_nw (sc_pm σ 0 (-1) f o 0) 11) ga o).1 6 ga o = 1 := by rw [sc_np_6, if_pos ⟨rfl, rfl⟩]
      have k9 := cl_ps3 (S := S) (ga := ga) (gb := gb) (t := 0) R W3 hf3 hs3
      refine k9.mono (fun r h9 q9 => ?_)
      obtain ⟨q1, A2, R2, hA2, q4⟩ := q9
      exact ⟨q1, A2, by rw [sc_ps2, if_neg hfs, hs]; exact R2, fun k hk => (hA2 k hk).trans (hA k hk), q4⟩
    · have hgg : ga = gb := Classical.byContradiction (fun hn => R.2.2 1 ga 0 1 gb 0 rfl rfl ⟨la, rfl⟩ ⟨lb, rfl⟩ hne |> fun e => hn e.2.1)
      refine gx_return dX5_putStarts_76 ?_
      have hfs : f = s := by omega
      exact ⟨rfl, A, by rw [sc_ps2, if_pos hfs]; exact R, fun k hk => rfl, rfl⟩
set_option maxHeartbeats 4000000 in
theorem cc_X5_putStarts {S : gx_S} {h : gx_H} {σ : gs_T} {A : gs_A} (R : gs_R h σ A) (W : gw_W σ) {o : Nat} (hh : ¬ σ.1 32 0 0 = 1) (ho : o < σ.1 1 0 0) (hno : ∀ g, ¬ σ.1 6 g o = 1) : gx_Cn S gm_X5_putStarts 3 [.ref (A 5 0 0), .ref (A 3 o 0)] h (fun r h' => ∃ A1 : gs_A, gs_R h' (sc_ps σ o) A1 ∧ (∀ k, k ≠ 4 → A1 k = A k) ∧ r = none) := by
  refine gx_Cn.of gt_X5_putStarts (by simp [Value.category]) (Nat.le_of_ble_eq_true rfl) ?_
  show gx_Ev S gm_X5_putStarts 3 0 [some (.ref (A 5 0 0)), some (.ref (A 3 o 0)), none, none, none, none, none] [] h _
  have hl := gw_o W ho
  have hcn := gw_cnt W
  have hn4 := gw_n4 W
  have hn2 := gw_n2 W
  have hka := Nat.mod_lt (σ.1 13 o 0) (show 0 < σ.1 0 0 0 by omega)
  have hkb := Nat.mod_lt (σ.1 14 o 0) (show 0 < σ.1 0 0 0 by omega)
  refine gx_aload_n dX5_putStarts_0 rfl ?_
  refine gx_aload_n dX5_putStarts_1 rfl ?_
  refine gx_get dX5_putStarts_2 gf_X5_198 (gs_g3 R hl) (v := .int (nI (σ.1 13 o 0))) (rfl) ?_
  refine gx_invV dX5_putStarts_5 wm_X5_201 gt_X5_keeperOf wy_X5_keeperOf wl_X5_keeperOf (ci := 5) rfl rfl (gs_g5 R ) (As := [.int (nI (σ.1 13 o 0))]) (rest := []) rfl rfl (Nat.le_of_ble_eq_true rfl) (by decide) (cc_X5_keeperOf R W (k := σ.1 13 o 0) (gw_a W o)) (fun r1 h q1 => ?_)
  obtain ⟨rfl, rfl⟩ := q1
  show gx_Ev _ _ _ _ _ [.ref (A 1 (σ.1 13 o 0 % σ.1 0 0 0) 0)] _ _
  refine gx_astore_n dX5_putStarts_8 (by decide) rfl (L' := [some (.ref (A 5 0 0)), some (.ref (A 3 o 0)), some (.ref (A 1 (σ.1 13 o 0 % σ.1 0 0 0) 0)), none, none, none, none]) rfl ?_
  refine gx_aload_n dX5_putStarts_9 rfl ?_
  refine gx_aload_n dX5_putStarts_10 rfl ?_
  refine gx_get dX5_putStarts_11 gf_X5_205 (gs_g3 R hl) (v := .int (nI (σ.1 14 o 0))) (rfl) ?_
  refine gx_invV dX5_putStarts_14 wm_X5_201 gt_X5_keeperOf wy_X5_keeperOf wl_X5_keeperOf (ci := 5) rfl rfl (gs_g5 R ) (As := [.int (nI (σ.1 14 o 0))]) (rest := []) rfl rfl (Nat.le_of_ble_eq_true rfl) (by decide) (cc_X5_keeperOf R W (k := σ.1 14 o 0) (gw_b W o)) (fun r1 h q1 => ?_)
  obtain ⟨rfl, rfl⟩ := q1
  show gx_Ev _ _ _ _ _ [.ref (A 1 (σ.1 14 o 0 % σ.1 0 0 0) 0)] _ _
  refine gx_astore_n dX5_putStarts_17 (by decide) rfl (L' := [some (.ref (A 5 0 0)), some (.ref (A 3 o 0)), some (.ref (A 1 (σ.1 13 o 0 % σ.1 0 0 0) 0)), some (.ref (A 1 (σ.1 14 o 0 % σ.1 0 0 0) 0)), none, none, none]) rfl ?_
  refine gx_aload_n dX5_putStarts_18 rfl ?_
  refine gx_get dX5_putStarts_19 gf_X5_208 (gs_g1 R (gw_g W hka)) (v := .int (nI (σ.1 13 o 0 % σ.1 0 0 0))) (rfl) ?_
  refine gx_aload_n dX5_putStarts_22 rfl ?_
  refine gx_get dX5_putStarts_23 gf_X5_208 (gs_g1 R (gw_g W hkb)) (v := .int (nI (σ.1 14 o 0 % σ.1 0 0 0))) (rfl) ?_
  refine gx_icmp_gt dX5_putStarts_26 (tgt := 33) (by decide) (fun hgt0 => ?_) (fun hgt0 => ?_)
  · have hgt : ¬ σ.1 13 o 0 % σ.1 0 0 0 ≤ σ.1 14 o 0 % σ.1 0 0 0 := fun z => Int32.not_lt.mpr (nI_le z (by omega)) hgt0
    refine gx_iconst dX5_putStarts_33 (v := 0) (by decide) ?_
    refine gx_istore dX5_putStarts_34 (by decide) rfl (L' := [some (.ref (A 5 0 0)), some (.ref (A 3 o 0)), some (.ref (A 1 (σ.1 13 o 0 % σ.1 0 0 0) 0)), some (.ref (A 1 (σ.1 14 o 0 % σ.1 0 0 0) 0)), some (.int 0), none, none]) rfl ?_
    refine gx_iload dX5_putStarts_36 rfl ?_
    refine gx_if_eq dX5_putStarts_38 (tgt := 45) (by decide) (fun hc2 => ?_) (fun hc2 => absurd hc2 (by decide))
    refine gx_aload_n dX5_putStarts_45 rfl ?_
    refine gx_aload_n dX5_putStarts_46 rfl ?_
    refine gx_invV dX5_putStarts_47 wm_X5_209 gt_X1_partFor wy_X1_partFor wl_X1_partFor (ci := 1) rfl rfl (gs_g1 R (gw_g W hkb)) (As := [.ref (A 3 o 0)]) (rest := []) rfl rfl (Nat.le_of_ble_eq_true rfl) (by decide) (cc_X1_partFor R W hh (gw_g W hkb) hl (show o < 40 by omega) (fun z => hno _ z)) (fun r1 h q1 => ?_)
    obtain ⟨A1, R, hA, hA4, rfl⟩ := q1
    rw [← hA 5 (by decide), ← hA 3 (by decide), ← hA 1 (by decide)]
    have W3 : gw_W (sc_np (sc_nw σ 11) (σ.1 14 o 0 % σ.1 0 0 0) o) := gw_np (gw_nw W 11) hkb ho
    have hf3 : (sc_np (sc_nw σ 11) (σ.1 14 o 0 % σ.1 0 0 0) o).1 6 (σ.1 14 o 0 % σ.1 0 0 0) o = 1 := by rw [sc_np_6, if_pos ⟨rfl, rfl⟩]
    have k9 := cl_ps2 (S := S) (ga := σ.1 13 o 0 % σ.1 0 0 0) (gb := σ.1 14 o 0 % σ.1 0 0 0) (s := σ.1 13 o 0 % σ.1 0 0 0) (t := 0) R W3 hh hf3 hka hkb (Or.inr ⟨rfl, rfl, rfl⟩) ho (fun hn z => by rw [sc_np_6, if_neg (fun e => hn e.1.symm)] at z; exact hno _ z)
    refine k9.mono (fun r h9 q9 => ?_)
    obtain ⟨q1, A2, R2, hA2, q4⟩ := q9
    exact ⟨q1, A2, by rw [sc_ps, sc_kf, sc_ks, if_neg hgt, if_neg hgt]; exact R2, fun k hk => (hA2 k hk).trans (hA k hk), q4⟩
  · have hgt : σ.1 13 o 0 % σ.1 0 0 0 ≤ σ.1 14 o 0 % σ.1 0 0 0 := Nat.le_of_not_lt (fun z => hgt0 (nI_lt z (by omega)))
    refine gx_iconst dX5_putStarts_29 (v := 1) (by decide) ?_
    refine gx_goto dX5_putStarts_30 (tgt := 34) (by decide) ?_
    refine gx_istore dX5_putStarts_34 (by decide) rfl (L' := [some (.ref (A 5 0 0)), some (.ref (A 3 o 0)), some (.ref (A 1 (σ.1 13 o 0 % σ.1 0 0 0) 0)), some (.ref (A 1 (σ.1 14 o 0 % σ.1 0 0 0) 0)), some (.int 1), none, none]) rfl ?_
    refine gx_iload dX5_putStarts_36 rfl ?_
    refine gx_if_eq dX5_putStarts_38 (tgt := 45) (by decide) (fun hc3 => absurd hc3 (by decide)) (fun hc3 => ?_)
    refine gx_aload_n dX5_putStarts_41 rfl ?_
    refine gx_goto dX5_putStarts_42 (tgt := 46) (by decide) ?_
    refine gx_aload_n dX5_putStarts_46 rfl ?_
    refine gx_invV dX5_putStarts_47 wm_X5_209 gt_X1_partFor wy_X1_partFor wl_X1_partFor (ci := 1) rfl rfl (gs_g1 R (gw_g W hka)) (As := [.ref (A 3 o 0)]) (rest := []) rfl rfl (Nat.le_of_ble_eq_true rfl) (by decide) (cc_X1_partFor R W hh (gw_g W hka) hl (show o < 40 by omega) (fun z => hno _ z)) (fun r1 h q1 => ?_)
    obtain ⟨A1, R, hA, hA4, rfl⟩ := q1
    rw [← hA 5 (by decide), ← hA 3 (by decide), ← hA 1 (by decide)]
    have W3 : gw_W (sc_np (sc_nw σ 11) (σ.1 13 o 0 % σ.1 0 0 0) o) := gw_np (gw_nw W 11) hka ho
    have hf3 : (sc_np (sc_nw σ 11) (σ.1 13 o 0 % σ.1 0 0 0) o).1 6 (σ.1 13 o 0 % σ.1 0 0 0) o = 1 := by rw [sc_np_6, if_pos ⟨rfl, rfl⟩]
    have k9 := cl_ps2 (S := S) (ga := σ.1 13 o 0 % σ.1 0 0 0) (gb := σ.1 14 o 0 % σ.1 0 0 0) (s := σ.1 14 o 0 % σ.1 0 0 0) (t := 1) R W3 hh hf3 hka hkb (Or.inl ⟨rfl, rfl, rfl⟩) ho (fun hn z => by rw [sc_np_6, if_neg (fun e => hn e.1.symm)] at z; exact hno _ z)
    refine k9.mono (fun r h9 q9 => ?_)
    obtain ⟨q1, A2, R2, hA2, q4⟩ := q9
    exact ⟨q1, A2, by rw [sc_ps, sc_kf, sc_ks, if_pos hgt, if_pos hgt]; exact R2, fun k hk => (hA2 k hk).trans (hA k hk), q4⟩
