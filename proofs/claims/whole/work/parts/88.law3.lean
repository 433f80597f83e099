/-! the law: its loop, its start -/
theorem gl_lt {N k : Nat} (hN : N ≤ 3073) (hk : k ≤ 513) : nI N - 6 < nI (6 * k + 1) ↔ N < 6 * k + 7 := by
  have e : (nI N - 6).toInt = (N : Int) - 6 := pk_sub_toInt (a := N) (b := 6) (by omega) (by omega)
  rw [Int32.lt_iff_toInt_lt, e, nI_toInt (by omega)]
  omega
def gl_c0 (S : gx_S) : Int32 := if S.2.2.1 = 0 then 0 else S.2.2.2 0
set_option maxHeartbeats 4000000 in
theorem cc_L_cell {S : gx_S} {h : gx_H} (hN : S.2.2.1 ≤ 3073) : gx_Cn S gm_L_cell 1 [.ref S.2.1, .int 0] h (fun r h' => h' = h ∧ r = some (.int (gl_c0 S))) := by
  refine gx_Cn.of gt_L_cell (by simp [Value.category]) (Nat.le_of_ble_eq_true rfl) ?_
  show gx_Ev S gm_L_cell 1 0 [some (.ref S.2.1), some (.int 0)] [] h _
  refine gx_iload_n dL_cell_0 rfl ?_
  refine gx_aload_n dL_cell_1 rfl ?_
  refine gx_slen dL_cell_2 ?_
  refine gx_icmp_ge dL_cell_3 (tgt := 12) (by decide) (fun h8 => ?_) (fun h8 => ?_)
  · have h9 : S.2.2.1 = 0 := by
      have h8 : nI S.2.2.1 ≤ 0 := h8
      rw [Int32.le_iff_toInt_le, nI_toInt (by omega)] at h8
      have e0 : (0 : Int32).toInt = 0 := by decide
      omega
    refine gx_iconst dL_cell_12 (v := 0) (by decide) ?_
    refine gx_ireturn dL_cell_13 ?_
    exact ⟨⟨_, rfl, rfl⟩, rfl, by rw [gl_c0, if_pos h9]⟩
  · have h9 : ¬ S.2.2.1 = 0 := fun z => h8 (show nI S.2.2.1 ≤ 0 from by rw [z]; decide)
    refine gx_aload_n dL_cell_6 rfl ?_
    refine gx_iload_n dL_cell_7 rfl ?_
    refine gx_sld dL_cell_8 (i := 0) (x := S.2.2.2 0) (show vp_in (nI 0) _ from vp_in_nI (by omega) (by omega)) rfl ?_
    refine gx_goto dL_cell_9 (tgt := 13) (by decide) ?_
    refine gx_ireturn dL_cell_13 ?_
    exact ⟨⟨_, rfl, rfl⟩, rfl, by rw [gl_c0, if_neg h9]⟩
set_option maxHeartbeats 4000000 in
theorem gl_loop {S : gx_S} {IV : Nat → gs_T → Prop} (HH : gl_H IV) (hN : S.2.2.1 ≤ 3073) (hr : ∀ k σ, k ≤ 513 → IV k σ → σ.1 20 0 0 ≤ S.1 + 600000 ∧ σ.1 21 0 0 ≤ 7302250) : ∀ (m k : Nat) (h : gx_H) (σ : gs_T) (A : gs_A), k + m = 513 → gs_R h σ A → IV k σ → gx_Ev S gm_L_law 9 28 [some (.ref S.2.1), some (.ref (A 5 0 0)), some (.ref (A 6 0 0)), some (.int (nI (6 * k + 1)))] [] h (fun r h' => r = some (.int 1) ∧ h'.1 ≤ S.1 + 600000 ∧ h'.2.1 ≤ 7302250) := by
  intro m
  induction m with
  | zero =>
    intro k h σ A hk R J
    refine gx_iload_n dL_law_28 rfl ?_
    refine gx_aload_n dL_law_29 rfl ?_
    refine gx_slen dL_law_30 ?_
    refine gx_bipush dL_law_31 (v := 6) (by decide) ?_
    refine gx_isub dL_law_33 ?_
    refine gx_icmp_gt dL_law_34 (tgt := 553) (by decide) (fun hc => ?_) (fun hc => ?_)
    · have r9 := hr k σ (by omega) J
      refine gx_iconst dL_law_553 (v := 1) (by decide) ?_
      refine gx_ireturn dL_law_554 ?_
      exact ⟨rfl, by rw [R.2.1.1]; exact r9.1, by rw [R.2.1.2]; exact r9.2⟩
    · have hk7 : 6 * k + 7 ≤ S.2.2.1 := Nat.le_of_not_lt (fun z => hc ((gl_lt hN (by omega)).mpr z))
      omega
  | succ m ih =>
    intro k h σ A hk R J
    refine gx_iload_n dL_law_28 rfl ?_
    refine gx_aload_n dL_law_29 rfl ?_
    refine gx_slen dL_law_30 ?_
    refine gx_bipush dL_law_31 (v := 6) (by decide) ?_
    refine gx_isub dL_law_33 ?_
    refine gx_icmp_gt dL_law_34 (tgt := 553) (by decide) (fun hc => ?_) (fun hc => ?_)
    · have r9 := hr k σ (by omega) J
      refine gx_iconst dL_law_553 (v := 1) (by decide) ?_
      refine gx_ireturn dL_law_554 ?_
      exact ⟨rfl, by rw [R.2.1.1]; exact r9.1, by rw [R.2.1.2]; exact r9.2⟩
    · have hk7 : 6 * k + 7 ≤ S.2.2.1 := Nat.le_of_not_lt (fun z => hc ((gl_lt hN (by omega)).mpr z))
      have K : ∀ (h : gx_H) (σ : gs_T) (A : gs_A), gs_R h σ A → IV (k + 1) σ → gx_Ev S gm_L_law 9 547 [some (.ref S.2.1), some (.ref (A 5 0 0)), some (.ref (A 6 0 0)), some (.int (nI (6 * k + 1)))] [] h (fun r h' => r = some (.int 1) ∧ h'.1 ≤ S.1 + 600000 ∧ h'.2.1 ≤ 7302250) := by
        intro h σ A R J
        refine gx_iinc dL_law_547 rfl (v := nI (6 * (k + 1) + 1)) (nI_add (6 * k + 1) 6) (by decide) rfl (L' := [some (.ref S.2.1), some (.ref (A 5 0 0)), some (.ref (A 6 0 0)), some (.int (nI (6 * (k + 1) + 1)))]) rfl ?_
        refine gx_goto dL_law_550 (tgt := 28) (by decide) ?_
        exact ih (k + 1) h σ A (by omega) R J
      refine gx_aload_n dL_law_37 rfl ?_
      refine gx_iload_n dL_law_38 rfl ?_
      refine gx_sld dL_law_39 (x := S.2.2.2 (6 * k + 1)) (vp_in_nI (by omega) (by omega)) (by rw [nI_clamp (by omega)]) ?_
      refine gx_bipush dL_law_40 (v := 15) (by decide) ?_
      refine gx_iand dL_law_42 ?_
      generalize S.2.2.2 (6 * k + 1) &&& 15 = v
      by_cases t0 : v = 0
      · subst t0
        refine gx_tableIn dL_law_43 (by decide) (by decide) (off := 73) (by decide) (tgt := 116) (by decide) ?_
        exact cl_law_send HH R J hN hk7 K
      by_cases t1 : v = 1
      · subst t1
        refine gx_tableIn dL_law_43 (by decide) (by decide) (off := 136) (by decide) (tgt := 179) (by decide) ?_
        exact cl_law_bring HH R J hN hk7 K
      by_cases t2 : v = 2
      · subst t2
        refine gx_tableIn dL_law_43 (by decide) (by decide) (off := 159) (by decide) (tgt := 202) (by decide) ?_
        exact cl_law_twice HH R J hN hk7 K
      by_cases t3 : v = 3
      · subst t3
        refine gx_tableIn dL_law_43 (by decide) (by decide) (off := 182) (by decide) (tgt := 225) (by decide) ?_
        exact cl_law_up HH R J hN hk7 K
      by_cases t4 : v = 4
      · subst t4
        refine gx_tableIn dL_law_43 (by decide) (by decide) (off := 231) (by decide) (tgt := 274) (by decide) ?_
        exact cl_law_flight HH R J hN hk7 K
      by_cases t5 : v = 5
      · subst t5
        refine gx_tableIn dL_law_43 (by decide) (by decide) (off := 264) (by decide) (tgt := 307) (by decide) ?_
        exact cl_law_flying HH R J hN hk7 K
      by_cases t6 : v = 6
      · subst t6
        refine gx_tableIn dL_law_43 (by decide) (by decide) (off := 277) (by decide) (tgt := 320) (by decide) ?_
        exact cl_law_taken HH R J hN hk7 K
      by_cases t7 : v = 7
      · subst t7
        refine gx_tableIn dL_law_43 (by decide) (by decide) (off := 310) (by decide) (tgt := 353) (by decide) ?_
        exact cl_law_answer HH R J hN hk7 K
      by_cases t8 : v = 8
      · subst t8
        refine gx_tableIn dL_law_43 (by decide) (by decide) (off := 333) (by decide) (tgt := 376) (by decide) ?_
        exact cl_law_answered HH R J hN hk7 K
      by_cases t9 : v = 9
      · subst t9
        refine gx_tableIn dL_law_43 (by decide) (by decide) (off := 356) (by decide) (tgt := 399) (by decide) ?_
        exact cl_law_time HH R J hN hk7 K
      by_cases t10 : v = 10
      · subst t10
        refine gx_tableIn dL_law_43 (by decide) (by decide) (off := 399) (by decide) (tgt := 442) (by decide) ?_
        exact cl_law_value HH R J hN hk7 K
      by_cases t11 : v = 11
      · subst t11
        refine gx_tableIn dL_law_43 (by decide) (by decide) (off := 422) (by decide) (tgt := 465) (by decide) ?_
        exact cl_law_clock HH R J hN hk7 K
      by_cases t12 : v = 12
      · subst t12
        refine gx_tableIn dL_law_43 (by decide) (by decide) (off := 445) (by decide) (tgt := 488) (by decide) ?_
        exact cl_law_seen HH R J hN hk7 K
      by_cases t13 : v = 13
      · subst t13
        refine gx_tableIn dL_law_43 (by decide) (by decide) (off := 468) (by decide) (tgt := 511) (by decide) ?_
        exact cl_law_agree HH R J hN hk7 K
      by_cases t14 : v = 14
      · subst t14
        refine gx_tableIn dL_law_43 (by decide) (by decide) (off := 481) (by decide) (tgt := 524) (by decide) ?_
        exact cl_law_count HH R J hN hk7 K
      refine gx_tableOut dL_law_43 (gs_swout (N := 14) (by decide) (fun z hz => by rcases (by omega : z = 0 ∨ z = 1 ∨ z = 2 ∨ z = 3 ∨ z = 4 ∨ z = 5 ∨ z = 6 ∨ z = 7 ∨ z = 8 ∨ z = 9 ∨ z = 10 ∨ z = 11 ∨ z = 12 ∨ z = 13 ∨ z = 14) with rfl | rfl | rfl | rfl | rfl | rfl | rfl | rfl | rfl | rfl | rfl | rfl | rfl | rfl | rfl <;> first | exact t0 | exact t1 | exact t2 | exact t3 | exact t4 | exact t5 | exact t6 | exact t7 | exact t8 | exact t9 | exact t10 | exact t11 | exact t12 | exact t13 | exact t14)) (tgt := 547) (by decide) ?_
      exact K h σ A R (HH.1 k σ (by omega) J).2.2.2.2.2
theorem sc_fl_i {f : Nat} {v : Int32} {σ : gs_T} {m t : Nat} (ht : t ≠ f) : (sc_fl f v σ m).2.1 t = σ.2.1 t := by
  induction m with
  | zero => rfl
  | succ m ih => exact (gs_u_ne ht).trans ih
theorem gi_1_1 (x : Int32) (b s : Nat) {t : Nat} (h15 : t ≠ 15) (h20 : t ≠ 20) (h21 : t ≠ 21) : (gi_1 x b s).1 t = (gi_0 (gi_n x) (b + 8) (s + (334 + gi_n x))).1 t := by
  unfold gi_1
  rw [sc_fl_1, gi_g_f h15 h20 h21]
theorem gi_1_2 (x : Int32) (b s : Nat) {t : Nat} (h19 : t ≠ 19) : (gi_1 x b s).2.1 t = (gi_0 (gi_n x) (b + 8) (s + (334 + gi_n x))).2.1 t := by
  unfold gi_1
  rw [sc_fl_i h19, gi_g_i]
def gi_s (x : Int32) (b : Nat) : gs_T := gi_2 (sc_nw (gi_1 x (b + 1) 9) 34)
theorem gi_1z (x : Int32) (b s : Nat) : gi_z (sc_nw (gi_1 x b s) 34) (gi_n x) := by
  have e : ∀ t, t ≠ 15 → t ≠ 20 → t ≠ 21 → (sc_nw (gi_1 x b s) 34).1 t = (gi_0 (gi_n x) (b + 8) (s + (334 + gi_n x))).1 t := fun t h1 h2 h3 => (gs_u_ne h3).trans ((gs_u_ne h2).trans (gi_1_1 x b s h1 h2 h3))
  refine ⟨?_, fun t q ht => ?_, fun q => ?_, fun t q ht => ?_⟩
  · rw [e 100 (by decide) (by decide) (by decide)]; rfl
  · rw [e t (by omega) (by omega) (by omega)]
    simp only [gi_0]
    rw [if_neg (by omega), if_neg (by omega), if_neg (by omega), if_neg (by omega), if_neg (by omega)]
  · rw [e 128 (by decide) (by decide) (by decide)]; rfl
  · show (gi_1 x b s).2.1 t q 0 = 0
    rw [gi_1_2 x b s (by omega)]
    simp only [gi_0]
    rw [if_neg (by omega)]
set_option maxHeartbeats 4000000 in
theorem gl_main (H : ∀ S : gx_S, ∃ IV : Nat → gs_T → Prop, gl_H IV ∧ (∀ x, IV 0 (gi_s x S.1)) ∧ ∀ k σ, k ≤ 513 → IV k σ → σ.1 20 0 0 ≤ S.1 + 600000 ∧ σ.1 21 0 0 ≤ 7302250) : gl_Law := by
  intro S hN
  obtain ⟨IV, HH, H0, hr⟩ := H S
  refine gx_new dL_law_0 gk_X5 wc_L_7 wn_X5 wi_X5 (fs := [.null, .null, .null, .null, .null, .int 0, .int 0, .null, .null]) (by decide) ?_
  have hraw := gx_push_at (gl_h0 S.1) 9 (gx_ob 5 [.null, .null, .null, .null, .null, .int 0, .int 0, .null, .null])
  show gx_Ev _ _ _ _ _ [.ref S.1] _ _
  refine gx_dup dL_law_3 rfl ?_
  refine gx_aload_n dL_law_4 rfl ?_
  refine gx_iconst dL_law_5 (v := 0) (by decide) ?_
  refine gx_invS dL_law_6 wm_L_9 gt_L_cell ws_L_cell (As := [.ref S.2.1, .int 0]) (rest := [.ref S.1, .ref S.1]) rfl rfl (Nat.le_of_ble_eq_true rfl) (by decide) (cc_L_cell hN) (fun r1 h q1 => ?_)
  obtain ⟨rfl, rfl⟩ := q1
  show gx_Ev _ _ _ _ _ [.int (gl_c0 S), .ref S.1, .ref S.1] _ _
  refine gx_invI dL_law_9 wm_L_15 gt_X5_init rfl rfl wy_X5_init (As := [.int (gl_c0 S)]) (rest := [.ref S.1]) rfl rfl (Nat.le_of_ble_eq_true rfl) (by decide) (cc_X5_init (a := S.1) (gl_c0 S) (Nat.lt_succ_self _) hraw) (fun r1 h q1 => ?_)
  obtain ⟨A, R, hA5, rfl⟩ := q1
  show gx_Ev _ _ _ _ _ [.ref S.1] _ _
  have R : gs_R h (gi_1 (gl_c0 S) (S.1 + 1) 9) A := by rw [show (9 : Nat) = 0 + 9 from rfl]; exact R
  rw [← hA5]
  refine gx_astore_n dL_law_12 (by decide) rfl (L' := [some (.ref S.2.1), some (.ref (A 5 0 0)), none, none]) rfl ?_
  have hfr := R.fresh
  refine gx_new dL_law_13 gk_X6 wc_L_18 wn_X6 wi_X6 (fs := gi_fs 0 0) (by decide) ?_
  have hraw := gx_push_at h 34 (gx_ob 6 (gi_fs 0 0))
  have hfr := hfr.nw 34
  have R := R.push 34 (gx_ob 6 (gi_fs 0 0))
  refine gx_dup dL_law_16 rfl ?_
  refine gx_aload_n dL_law_17 rfl ?_
  refine gx_iconst dL_law_18 (v := 0) (by decide) ?_
  refine gx_invS dL_law_19 wm_L_9 gt_L_cell ws_L_cell (As := [.ref S.2.1, .int 0]) (rest := [.ref h.1, .ref h.1]) rfl rfl (Nat.le_of_ble_eq_true rfl) (by decide) (cc_L_cell hN) (fun r1 hN1 q1 => ?_)
  obtain ⟨rfl, rfl⟩ := q1
  show gx_Ev _ _ _ _ _ [.int (gl_c0 S), .ref h.1, .ref h.1] _ _
  refine gx_invI dL_law_22 wm_L_20 gt_X6_init rfl rfl wy_X6_init (As := [.int (gl_c0 S)]) (rest := [.ref h.1]) rfl rfl (Nat.le_of_ble_eq_true rfl) (by decide) (cc_X6_init (gl_c0 S) R (Nat.lt_succ_self _) hfr (gi_1z _ _ _) hraw) (fun r1 h2 q1 => ?_)
  obtain ⟨A1, R, hA6, hA, rfl⟩ := q1
  show gx_Ev _ _ _ _ _ [.ref h.1] _ _
  rw [← hA6, ← hA 5 rfl]
  refine gx_astore_n dL_law_25 (by decide) rfl (L' := [some (.ref S.2.1), some (.ref (A1 5 0 0)), some (.ref (A1 6 0 0)), none]) rfl ?_
  refine gx_iconst dL_law_26 (v := 1) (by decide) ?_
  refine gx_istore_n dL_law_27 (by decide) rfl (L' := [some (.ref S.2.1), some (.ref (A1 5 0 0)), some (.ref (A1 6 0 0)), some (.int (nI (6 * 0 + 1)))]) rfl ?_
  have k9 := gl_loop HH hN hr 513 0 h2 _ A1 rfl R (H0 (gl_c0 S))
  rw [show S.1 = A1 5 0 0 from by rw [hA 5 rfl]; exact hA5.symm] at k9
  exact k9
