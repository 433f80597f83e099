/-! the class: receive, putValues -/
def sc_pf (t : Nat) : Bool := t == 2 || t == 8 || t == 9 || t == 10 || t == 18 || t == 20 || t == 21
theorem sc_pm_f {σ : gs_T} {k f : Int32} {g o : Nat} {c : Int32} {t : Nat} (ht : sc_pf t = false) : (sc_pm σ k f g o c).1 t = σ.1 t := by
  have h : t ≠ 2 ∧ t ≠ 8 ∧ t ≠ 9 ∧ t ≠ 10 ∧ t ≠ 18 ∧ t ≠ 20 ∧ t ≠ 21 := by simpa [sc_pf, and_assoc] using ht
  obtain ⟨h2, h8, h9, h10, h18, h20, h21⟩ := h
  unfold sc_pm sc_pt
  split
  · exact (gs_u_ne h2).trans ((gs_u_ne h9).trans ((gs_u_ne h8).trans ((gs_u_ne h18).trans ((gs_u_ne h10).trans ((gs_u_ne h21).trans (gs_u_ne h20))))))
  · exact (gs_u_ne h21).trans (gs_u_ne h20)
theorem sc_pm_i {σ : gs_T} {k f : Int32} {g o : Nat} {c : Int32} {t : Nat} (ht : t ≠ 16 ∧ t ≠ 17 ∧ t ≠ 18) : (sc_pm σ k f g o c).2.1 t = σ.2.1 t := by
  unfold sc_pm sc_pt
  split
  · exact (gs_u_ne ht.2.2).trans ((gs_u_ne ht.2.1).trans (gs_u_ne ht.1))
  · rfl
def sc_rv (σ : gs_T) : gs_T := if σ.2.1 23 0 0 = 1 then gs_i σ 9 (σ.1 16 0 0) (σ.1 17 0 0) (σ.2.1 25 0 0) else if σ.2.1 23 0 0 = 2 then gs_i (gs_i σ 14 (σ.1 16 0 0) (σ.1 17 0 0) (σ.2.1 25 0 0)) 13 (σ.1 16 0 0) (σ.1 17 0 0) 1 else if σ.2.1 8 (σ.1 16 0 0) (σ.1 17 0 0) = -1 then (if σ.1 7 (σ.1 16 0 0) (σ.1 17 0 0) = 0 then sc_start σ (σ.1 16 0 0) (σ.1 17 0 0) else sc_pm (sc_start σ (σ.1 16 0 0) (σ.1 17 0 0)) 1 (nI (σ.1 16 0 0)) (σ.1 7 (σ.1 16 0 0) (σ.1 17 0 0) - 1) (σ.1 17 0 0) (sc_sv σ (σ.1 16 0 0) (σ.1 17 0 0))) else σ
set_option maxHeartbeats 4000000 in
theorem cc_X5_receive {S : gx_S} {h : gx_H} {σ : gs_T} {A : gs_A} (R : gs_R h σ A) (W : gw_W σ) (hh : σ.1 32 0 0 = 1) (hp : σ.1 6 (σ.1 16 0 0) (σ.1 17 0 0) = 1) : gx_Cn S gm_X5_receive 2 [.ref (A 5 0 0), .ref (A 1 (σ.1 16 0 0) 0), .ref (σ.1 19 0 0)] h (fun r h' => gs_R h' (sc_rv σ) A ∧ r = none) := by
  refine gx_Cn.of gt_X5_receive (by simp [Value.category]) (Nat.le_of_ble_eq_true rfl) ?_
  show gx_Ev S gm_X5_receive 2 0 [some (.ref (A 5 0 0)), some (.ref (A 1 (σ.1 16 0 0) 0)), some (.ref (σ.1 19 0 0)), none] [] h _
  have hp : σ.1 6 (σ.1 16 0 0) (σ.1 17 0 0) = 1 := hp
  have hgo := gw_p W hp
  have hg := gw_g W hgo.1
  have ho := gw_o W hgo.2
  rcases gs_zs (σ.1 7 (σ.1 16 0 0) (σ.1 17 0 0)) with hot | ⟨g9, hot⟩
  · refine gx_aload_n dX5_receive_0 rfl ?_
    refine gx_get dX5_receive_1 gf_X5_112 (gs_g16 R hh) (v := .ref (A 4 (σ.1 16 0 0) (σ.1 17 0 0))) (rfl) ?_
    refine gx_astore_n dX5_receive_4 (by decide) rfl (L' := [some (.ref (A 5 0 0)), some (.ref (A 1 (σ.1 16 0 0) 0)), some (.ref (σ.1 19 0 0)), some (.ref (A 4 (σ.1 16 0 0) (σ.1 17 0 0)))]) rfl ?_
    refine gx_aload_n dX5_receive_5 rfl ?_
    refine gx_get dX5_receive_6 gf_X5_107 (gs_g16 R hh) (v := .int (σ.2.1 23 0 0)) (rfl) ?_
    refine gx_iconst dX5_receive_9 (v := 1) (by decide) ?_
    refine gx_icmp_ne dX5_receive_10 (tgt := 24) (by decide) (fun k1 => ?_) (fun k1 => ?_)
    · refine gx_aload_n dX5_receive_24 rfl ?_
      refine gx_get dX5_receive_25 gf_X5_107 (gs_g16 R hh) (v := .int (σ.2.1 23 0 0)) (rfl) ?_
      refine gx_iconst dX5_receive_28 (v := 2) (by decide) ?_
      refine gx_icmp_ne dX5_receive_29 (tgt := 48) (by decide) (fun k2 => ?_) (fun k2 => ?_)
      · refine gx_aload_n dX5_receive_48 rfl ?_
        refine gx_get dX5_receive_49 gf_X5_156 (gs_g4 R hp) (v := .int (σ.2.1 8 (σ.1 16 0 0) (σ.1 17 0 0))) (rfl) ?_
        refine gx_iconst dX5_receive_52 (v := (-1)) (by decide) ?_
        refine gx_icmp_ne dX5_receive_53 (tgt := 95) (by decide) (fun k3 => ?_) (fun k3 => ?_)
        · refine gx_return dX5_receive_95 ?_
          exact ⟨rfl, by rw [sc_rv, if_neg k1, if_neg k2, if_neg k3]; exact R, rfl⟩
        · refine gx_aload_n dX5_receive_56 rfl ?_
          refine gx_aload_n dX5_receive_57 rfl ?_
          refine gx_invV dX5_receive_58 wm_X5_249 gt_X1_start wy_X1_start wl_X1_start (ci := 1) rfl rfl (gs_g1 R hg) (As := [.ref (A 4 (σ.1 16 0 0) (σ.1 17 0 0))]) (rest := []) rfl rfl (Nat.le_of_ble_eq_true rfl) (by decide) (cc_X1_start R hg hp ho) (fun r1 h q1 => ?_)
          obtain ⟨R, hs0, rfl⟩ := q1
          show gx_Ev _ _ _ _ _ [] _ _
          refine gx_aload_n dX5_receive_61 rfl ?_
          refine gx_get dX5_receive_62 gf_X5_220 (gs_g4 R hp) (v := .null) (by show some (va_rf (gs_op (σ.1 7 _ _) _)) = _; rw [hot]; rfl) ?_
          refine gx_ifnullN dX5_receive_65 (tgt := 95) (by decide) ?_
          refine gx_return dX5_receive_95 ?_
          exact ⟨rfl, by rw [sc_rv, if_neg k1, if_neg k2, if_pos k3, if_pos hot]; exact R, rfl⟩
      · refine gx_aload_n dX5_receive_32 rfl ?_
        refine gx_aload_n dX5_receive_33 rfl ?_
        refine gx_get dX5_receive_34 gf_X5_128 (gs_g16 R hh) (v := .int (σ.2.1 25 0 0)) (rfl) ?_
        refine gp_I14 (σ := σ) hp dX5_receive_37 gf_X5_243 R (v := σ.2.1 25 0 0) (fun h R hs0 => ?_)
        refine gx_aload_n dX5_receive_40 rfl ?_
        refine gx_iconst dX5_receive_41 (v := 1) (by decide) ?_
        refine gp_I13 (σ := (gs_i σ 14 (σ.1 16 0 0) (σ.1 17 0 0) (σ.2.1 25 0 0))) hp dX5_receive_42 gf_X5_246 R (by first | exact Or.inl rfl | exact Or.inr rfl) (v := 1) (fun h R hs1 => ?_)
        refine gx_goto dX5_receive_45 (tgt := 95) (by decide) ?_
        refine gx_return dX5_receive_95 ?_
        exact ⟨rfl, by rw [sc_rv, if_neg k1, if_pos k2]; exact R, rfl⟩
    · refine gx_aload_n dX5_receive_13 rfl ?_
      refine gx_aload_n dX5_receive_14 rfl ?_
      refine gx_get dX5_receive_15 gf_X5_128 (gs_g16 R hh) (v := .int (σ.2.1 25 0 0)) (rfl) ?_
      refine gp_I9 (σ := σ) hp dX5_receive_18 gf_X5_240 R (v := σ.2.1 25 0 0) (fun h R hs0 => ?_)
      refine gx_goto dX5_receive_21 (tgt := 95) (by decide) ?_
      refine gx_return dX5_receive_95 ?_
      exact ⟨rfl, by rw [sc_rv, if_pos k1]; exact R, rfl⟩
  · refine gx_aload_n dX5_receive_0 rfl ?_
    refine gx_get dX5_receive_1 gf_X5_112 (gs_g16 R hh) (v := .ref (A 4 (σ.1 16 0 0) (σ.1 17 0 0))) (rfl) ?_
    refine gx_astore_n dX5_receive_4 (by decide) rfl (L' := [some (.ref (A 5 0 0)), some (.ref (A 1 (σ.1 16 0 0) 0)), some (.ref (σ.1 19 0 0)), some (.ref (A 4 (σ.1 16 0 0) (σ.1 17 0 0)))]) rfl ?_
    refine gx_aload_n dX5_receive_5 rfl ?_
    refine gx_get dX5_receive_6 gf_X5_107 (gs_g16 R hh) (v := .int (σ.2.1 23 0 0)) (rfl) ?_
    refine gx_iconst dX5_receive_9 (v := 1) (by decide) ?_
    refine gx_icmp_ne dX5_receive_10 (tgt := 24) (by decide) (fun k1 => ?_) (fun k1 => ?_)
    · refine gx_aload_n dX5_receive_24 rfl ?_
      refine gx_get dX5_receive_25 gf_X5_107 (gs_g16 R hh) (v := .int (σ.2.1 23 0 0)) (rfl) ?_
      refine gx_iconst dX5_receive_28 (v := 2) (by decide) ?_
      refine gx_icmp_ne dX5_receive_29 (tgt := 48) (by decide) (fun k2 => ?_) (fun k2 => ?_)
      · refine gx_aload_n dX5_receive_48 rfl ?_
        refine gx_get dX5_receive_49 gf_X5_156 (gs_g4 R hp) (v := .int (σ.2.1 8 (σ.1 16 0 0) (σ.1 17 0 0))) (rfl) ?_
        refine gx_iconst dX5_receive_52 (v := (-1)) (by decide) ?_
        refine gx_icmp_ne dX5_receive_53 (tgt := 95) (by decide) (fun k3 => ?_) (fun k3 => ?_)
        · refine gx_return dX5_receive_95 ?_
          exact ⟨rfl, by rw [sc_rv, if_neg k1, if_neg k2, if_neg k3]; exact R, rfl⟩
        · refine gx_aload_n dX5_receive_56 rfl ?_
          refine gx_aload_n dX5_receive_57 rfl ?_
          refine gx_invV dX5_receive_58 wm_X5_249 gt_X1_start wy_X1_start wl_X1_start (ci := 1) rfl rfl (gs_g1 R hg) (As := [.ref (A 4 (σ.1 16 0 0) (σ.1 17 0 0))]) (rest := []) rfl rfl (Nat.le_of_ble_eq_true rfl) (by decide) (cc_X1_start R hg hp ho) (fun r1 h q1 => ?_)
          obtain ⟨R, hs0, rfl⟩ := q1
          show gx_Ev _ _ _ _ _ [] _ _
          refine gx_aload_n dX5_receive_61 rfl ?_
          refine gx_get dX5_receive_62 gf_X5_220 (gs_g4 R hp) (v := .ref (A 4 g9 (σ.1 17 0 0))) (by show some (va_rf (gs_op (σ.1 7 _ _) _)) = _; rw [hot]; rfl) ?_
          refine gx_ifnull dX5_receive_65 ?_
          refine gx_aload_n dX5_receive_68 rfl ?_
          refine gx_get dX5_receive_69 gf_X5_25 (gs_g5 R ) (v := .ref (A 0 0 0)) (rfl) ?_
          have e20 := R.2.1.1
          have hfr := R.fresh
          refine gx_new dX5_receive_72 gk_X2 wc_X5_108 wn_X2 wi_X2 (fs := [.int 0, .int 0, .null, .int 0]) (by decide) ?_
          have hraw := gx_push_at h 4 (gx_ob 2 [.int 0, .int 0, .null, .int 0])
          have hfr := hfr.nw 4
          have R := R.push 4 (gx_ob 2 [.int 0, .int 0, .null, .int 0])
          refine gx_dup dX5_receive_75 rfl ?_
          refine gx_iconst dX5_receive_76 (v := 1) (by decide) ?_
          refine gx_aload_n dX5_receive_77 rfl ?_
          refine gx_get dX5_receive_78 gf_X5_125 (gs_g4 R hp) (v := .int (nI (σ.1 16 0 0))) (rfl) ?_
          refine gx_aload_n dX5_receive_81 rfl ?_
          refine gx_get dX5_receive_82 gf_X5_220 (gs_g4 R hp) (v := .ref (A 4 g9 (σ.1 17 0 0))) (by show some (va_rf (gs_op (σ.1 7 _ _) _)) = _; rw [hot]; rfl) ?_
          refine gx_aload_n dX5_receive_85 rfl ?_
          refine gx_get dX5_receive_86 gf_X5_156 (gs_g4 R hp) (v := .int ((sc_nw (sc_start σ (σ.1 16 0 0) (σ.1 17 0 0)) 4).2.1 8 (σ.1 16 0 0) (σ.1 17 0 0))) (rfl) ?_
          refine gx_invI dX5_receive_89 wm_X5_213 gt_X2_init rfl rfl wy_X2_init (As := [.int 1, .int (nI (σ.1 16 0 0)), .ref (A 4 g9 (σ.1 17 0 0)), .int ((sc_nw (sc_start σ (σ.1 16 0 0) (σ.1 17 0 0)) 4).2.1 8 (σ.1 16 0 0) (σ.1 17 0 0))]) (rest := [.ref h.1, .ref (A 0 0 0)]) rfl rfl (Nat.le_of_ble_eq_true rfl) (by decide) (cc_X2_init (h := gx_push h 4 (gx_ob 2 [.int 0, .int 0, .null, .int 0])) (a := h.1) 1 (nI (σ.1 16 0 0)) (A 4 g9 (σ.1 17 0 0)) ((sc_nw (sc_start σ (σ.1 16 0 0) (σ.1 17 0 0)) 4).2.1 8 (σ.1 16 0 0) (σ.1 17 0 0)) hraw) (fun r1 hN q1 => ?_)
          obtain ⟨rfl, rfl⟩ := q1
          show gx_Ev _ _ _ _ _ [.ref h.1, .ref (A 0 0 0)] _ _
          have R := R.raw hfr (gx_ob 2 [.int 1, .int (nI (σ.1 16 0 0)), .ref (A 4 g9 (σ.1 17 0 0)), .int ((sc_nw (sc_start σ (σ.1 16 0 0) (σ.1 17 0 0)) 4).2.1 8 (σ.1 16 0 0) (σ.1 17 0 0))])
          have hc9 := gx_set_at (gx_push h 4 (gx_ob 2 [.int 0, .int 0, .null, .int 0])) h.1 (gx_ob 2 [.int 1, .int (nI (σ.1 16 0 0)), .ref (A 4 g9 (σ.1 17 0 0)), .int ((sc_nw (sc_start σ (σ.1 16 0 0) (σ.1 17 0 0)) 4).2.1 8 (σ.1 16 0 0) (σ.1 17 0 0))])
          refine gx_invV dX5_receive_92 wm_X5_216 gt_X0_put wy_X0_put wl_X0_put (ci := 0) rfl rfl (gs_g0 R) (As := [.ref h.1]) (rest := []) rfl rfl (Nat.le_of_ble_eq_true rfl) (by decide) (cc_X0_put R (gw_oth (gw_oth W (by decide)) (by decide)) (a := h.1) (Nat.lt_succ_self _) hc9) (fun r1 hN q1 => ?_)
          obtain ⟨R, rfl⟩ := q1
          rw [e20] at R
          have R : gs_R _ (sc_pm (sc_start σ (σ.1 16 0 0) (σ.1 17 0 0)) 1 (nI (σ.1 16 0 0)) g9 (σ.1 17 0 0) ((sc_nw (sc_start σ (σ.1 16 0 0) (σ.1 17 0 0)) 4).2.1 8 (σ.1 16 0 0) (σ.1 17 0 0))) A := R
          show gx_Ev _ _ _ _ _ [] _ _
          clear hc9 hfr hraw e20
          revert R
          generalize hN = h
          intro R
          refine gx_return dX5_receive_95 ?_
          have e8 : (sc_nw (sc_start σ (σ.1 16 0 0) (σ.1 17 0 0)) 4).2.1 8 (σ.1 16 0 0) (σ.1 17 0 0) = sc_sv σ (σ.1 16 0 0) (σ.1 17 0 0) := by simp [sc_nw, sc_start, gs_i, gs_n, gs_u]
          rw [e8] at R
          exact ⟨rfl, by rw [sc_rv, if_neg k1, if_neg k2, if_pos k3, if_neg (by omega), hot]; exact R, rfl⟩
      · refine gx_aload_n dX5_receive_32 rfl ?_
        refine gx_aload_n dX5_receive_33 rfl ?_
        refine gx_get dX5_receive_34 gf_X5_128 (gs_g16 R hh) (v := .int (σ.2.1 25 0 0)) (rfl) ?_
        refine gp_I14 (σ := σ) hp dX5_receive_37 gf_X5_243 R (v := σ.2.1 25 0 0) (fun h R hs0 => ?_)
        refine gx_aload_n dX5_receive_40 rfl ?_
        refine gx_iconst dX5_receive_41 (v := 1) (by decide) ?_
        refine gp_I13 (σ := (gs_i σ 14 (σ.1 16 0 0) (σ.1 17 0 0) (σ.2.1 25 0 0))) hp dX5_receive_42 gf_X5_246 R (by first | exact Or.inl rfl | exact Or.inr rfl) (v := 1) (fun h R hs1 => ?_)
        refine gx_goto dX5_receive_45 (tgt := 95) (by decide) ?_
        refine gx_return dX5_receive_95 ?_
        exact ⟨rfl, by rw [sc_rv, if_neg k1, if_pos k2]; exact R, rfl⟩
    · refine gx_aload_n dX5_receive_13 rfl ?_
      refine gx_aload_n dX5_receive_14 rfl ?_
      refine gx_get dX5_receive_15 gf_X5_128 (gs_g16 R hh) (v := .int (σ.2.1 25 0 0)) (rfl) ?_
      refine gp_I9 (σ := σ) hp dX5_receive_18 gf_X5_240 R (v := σ.2.1 25 0 0) (fun h R hs0 => ?_)
      refine gx_goto dX5_receive_21 (tgt := 95) (by decide) ?_
      refine gx_return dX5_receive_95 ?_
      exact ⟨rfl, by rw [sc_rv, if_pos k1]; exact R, rfl⟩
def sc_ky (σ : gs_T) (g o : Nat) : Nat := if σ.1 13 o 0 % σ.1 0 0 0 = g then σ.1 13 o 0 else σ.1 14 o 0
theorem sc_ky_lt {σ : gs_T} (W : gw_W σ) (g o : Nat) : sc_ky σ g o < 16 := by
  unfold sc_ky
  split
  · exact gw_a W o
  · exact gw_b W o
def sc_pv (σ : gs_T) (g o : Nat) : gs_T := if σ.1 7 g o = 0 then σ else if σ.2.1 12 g o = 0 then gs_i (sc_pm σ 2 (nI g) (σ.1 7 g o - 1) o (σ.2.1 19 (sc_ky σ g o) 0)) 12 g o 1 else σ
set_option maxHeartbeats 4000000 in
theorem cc_X5_putValues {S : gx_S} {h : gx_H} {σ : gs_T} {A : gs_A} (R : gs_R h σ A) (W : gw_W σ) {g o : Nat} (hp : σ.1 6 g o = 1) : gx_Cn S gm_X5_putValues 2 [.ref (A 5 0 0), .ref (A 4 g o)] h (fun r h' => gs_R h' (sc_pv σ g o) A ∧ r = none) := by
  refine gx_Cn.of gt_X5_putValues (by simp [Value.category]) (Nat.le_of_ble_eq_true rfl) ?_
  show gx_Ev S gm_X5_putValues 2 0 [some (.ref (A 5 0 0)), some (.ref (A 4 g o)), none, none] [] h _
  have hgo := gw_p W hp
  have hg := gw_g W hgo.1
  have ho := gw_o W hgo.2
  have hn4 := gw_n4 W
  have hn2 := gw_n2 W
  have hka := Nat.mod_lt (σ.1 13 o 0) (show 0 < σ.1 0 0 0 by omega)
  rcases gs_zs (σ.1 7 g o) with hot | ⟨g9, hot⟩
  · refine gx_aload_n dX5_putValues_0 rfl ?_
    refine gx_get dX5_putValues_1 gf_X5_220 (gs_g4 R hp) (v := .null) (by show some (va_rf (gs_op (σ.1 7 _ _) _)) = _; rw [hot]; rfl) ?_
    refine gx_ifnullN dX5_putValues_4 (tgt := 14) (by decide) ?_
    refine gx_return dX5_putValues_14 ?_
    exact ⟨rfl, by rw [sc_pv, if_pos hot]; exact R, rfl⟩
  · refine gx_aload_n dX5_putValues_0 rfl ?_
    refine gx_get dX5_putValues_1 gf_X5_220 (gs_g4 R hp) (v := .ref (A 4 g9 o)) (by show some (va_rf (gs_op (σ.1 7 _ _) _)) = _; rw [hot]; rfl) ?_
    refine gx_ifnull dX5_putValues_4 ?_
    refine gx_aload_n dX5_putValues_7 rfl ?_
    refine gx_get dX5_putValues_8 gf_X5_262 (gs_g4 R hp) (v := .int (σ.2.1 12 g o)) (rfl) ?_
    refine gx_if_eq dX5_putValues_11 (tgt := 15) (by decide) (fun k1 => ?_) (fun k1 => ?_)
    · refine gx_aload_n dX5_putValues_15 rfl ?_
      refine gx_get dX5_putValues_16 gf_X5_116 (gs_g4 R hp) (v := .ref (A 3 o 0)) (rfl) ?_
      refine gx_astore_n dX5_putValues_19 (by decide) rfl (L' := [some (.ref (A 5 0 0)), some (.ref (A 4 g o)), some (.ref (A 3 o 0)), none]) rfl ?_
      refine gx_aload_n dX5_putValues_20 rfl ?_
      refine gx_aload_n dX5_putValues_21 rfl ?_
      refine gx_get dX5_putValues_22 gf_X5_198 (gs_g3 R ho) (v := .int (nI (σ.1 13 o 0))) (rfl) ?_
      refine gx_invV dX5_putValues_25 wm_X5_201 gt_X5_keeperOf wy_X5_keeperOf wl_X5_keeperOf (ci := 5) rfl rfl (gs_g5 R ) (As := [.int (nI (σ.1 13 o 0))]) (rest := []) rfl rfl (Nat.le_of_ble_eq_true rfl) (by decide) (cc_X5_keeperOf R W (k := σ.1 13 o 0) (gw_a W o)) (fun r1 h q1 => ?_)
      obtain ⟨rfl, rfl⟩ := q1
      show gx_Ev _ _ _ _ _ [.ref (A 1 (σ.1 13 o 0 % σ.1 0 0 0) 0)] _ _
      refine gx_get dX5_putValues_28 gf_X5_208 (gs_g1 R (gw_g W hka)) (v := .int (nI (σ.1 13 o 0 % σ.1 0 0 0))) (rfl) ?_
      refine gx_aload_n dX5_putValues_31 rfl ?_
      refine gx_get dX5_putValues_32 gf_X5_125 (gs_g4 R hp) (v := .int (nI g)) (rfl) ?_
      refine gx_icmp_ne dX5_putValues_35 (tgt := 45) (by decide) (fun k2 => ?_) (fun k2 => ?_)
      · have hky : sc_ky σ g o = σ.1 14 o 0 := by rw [sc_ky, if_neg (fun z => k2 (congrArg nI z))]
        refine gx_aload_n dX5_putValues_45 rfl ?_
        refine gx_get dX5_putValues_46 gf_X5_205 (gs_g3 R ho) (v := .int (nI (σ.1 14 o 0))) (rfl) ?_
        rw [← hky]
        refine gx_istore_n dX5_putValues_49 (by decide) rfl (L' := [some (.ref (A 5 0 0)), some (.ref (A 4 g o)), some (.ref (A 3 o 0)), some (.int (nI (sc_ky σ g o)))]) rfl ?_
        refine gx_aload_n dX5_putValues_50 rfl ?_
        refine gx_get dX5_putValues_51 gf_X5_25 (gs_g5 R ) (v := .ref (A 0 0 0)) (rfl) ?_
        have e20 := R.2.1.1
        have hfr := R.fresh
        refine gx_new dX5_putValues_54 gk_X2 wc_X5_108 wn_X2 wi_X2 (fs := [.int 0, .int 0, .null, .int 0]) (by decide) ?_
        have hraw := gx_push_at h 4 (gx_ob 2 [.int 0, .int 0, .null, .int 0])
        have hfr := hfr.nw 4
        have R := R.push 4 (gx_ob 2 [.int 0, .int 0, .null, .int 0])
        refine gx_dup dX5_putValues_57 rfl ?_
        refine gx_iconst dX5_putValues_58 (v := 2) (by decide) ?_
        refine gx_aload_n dX5_putValues_59 rfl ?_
        refine gx_get dX5_putValues_60 gf_X5_125 (gs_g4 R hp) (v := .int (nI g)) (rfl) ?_
        refine gx_aload_n dX5_putValues_63 rfl ?_
        refine gx_get dX5_putValues_64 gf_X5_220 (gs_g4 R hp) (v := .ref (A 4 g9 o)) (by show some (va_rf (gs_op (σ.1 7 _ _) _)) = _; rw [hot]; rfl) ?_
        refine gx_aload_n dX5_putValues_67 rfl ?_
        refine gx_get dX5_putValues_68 gf_X5_9 (gs_g5 R ) (v := .ref (A 8 0 0)) (rfl) ?_
        refine gx_iload_n dX5_putValues_71 rfl ?_
        refine gq_8 dX5_putValues_72 R  (q := sc_ky σ g o) (rfl) (sc_ky_lt W g o) (v := (sc_nw σ 4).2.1 19 (sc_ky σ g o) 0) (rfl) ?_
        refine gx_invI dX5_putValues_73 wm_X5_213 gt_X2_init rfl rfl wy_X2_init (As := [.int 2, .int (nI g), .ref (A 4 g9 o), .int ((sc_nw σ 4).2.1 19 (sc_ky σ g o) 0)]) (rest := [.ref h.1, .ref (A 0 0 0)]) rfl rfl (Nat.le_of_ble_eq_true rfl) (by decide) (cc_X2_init (h := gx_push h 4 (gx_ob 2 [.int 0, .int 0, .null, .int 0])) (a := h.1) 2 (nI g) (A 4 g9 o) ((sc_nw σ 4).2.1 19 (sc_ky σ g o) 0) hraw) (fun r1 hN q1 => ?_)
        obtain ⟨rfl, rfl⟩ := q1
        show gx_Ev _ _ _ _ _ [.ref h.1, .ref (A 0 0 0)] _ _
        have R := R.raw hfr (gx_ob 2 [.int 2, .int (nI g), .ref (A 4 g9 o), .int ((sc_nw σ 4).2.1 19 (sc_ky σ g o) 0)])
        have hc9 := gx_set_at (gx_push h 4 (gx_ob 2 [.int 0, .int 0, .null, .int 0])) h.1 (gx_ob 2 [.int 2, .int (nI g), .ref (A 4 g9 o), .int ((sc_nw σ 4).2.1 19 (sc_ky σ g o) 0)])
        refine gx_invV dX5_putValues_76 wm_X5_216 gt_X0_put wy_X0_put wl_X0_put (ci := 0) rfl rfl (gs_g0 R) (As := [.ref h.1]) (rest := []) rfl rfl (Nat.le_of_ble_eq_true rfl) (by decide) (cc_X0_put R (gw_oth (gw_oth W (by decide)) (by decide)) (a := h.1) (Nat.lt_succ_self _) hc9) (fun r1 hN q1 => ?_)
        obtain ⟨R, rfl⟩ := q1
        rw [e20] at R
        have R : gs_R _ (sc_pm σ 2 (nI g) g9 o ((sc_nw σ 4).2.1 19 (sc_ky σ g o) 0)) A := R
        show gx_Ev _ _ _ _ _ [] _ _
        clear hc9 hfr hraw e20
        revert R
        generalize hN = h
        intro R
        have hp : (sc_pm σ 2 (nI g) g9 o ((sc_nw σ 4).2.1 19 (sc_ky σ g o) 0)).1 6 g o = 1 := by rw [sc_pm_f (by decide)]; exact hp
        refine gx_aload_n dX5_putValues_79 rfl ?_
        refine gx_iconst dX5_putValues_80 (v := 1) (by decide) ?_
        refine gp_I12 (σ := (sc_pm σ 2 (nI g) g9 o ((sc_nw σ 4).2.1 19 (sc_ky σ g o) 0))) hp dX5_putValues_81 gf_X5_262 R (by first | exact Or.inl rfl | exact Or.inr rfl) (v := 1) (fun h R hs0 => ?_)
        refine gx_return dX5_putValues_84 ?_
        exact ⟨rfl, by rw [sc_pv, if_neg (by omega), if_pos k1, hot]; exact R, rfl⟩
      · have k2 := (nI_eq (by omega) (by omega)).mp k2
        have hky : sc_ky σ g o = σ.1 13 o 0 := by rw [sc_ky, if_pos k2]
        refine gx_aload_n dX5_putValues_38 rfl ?_
        refine gx_get dX5_putValues_39 gf_X5_198 (gs_g3 R ho) (v := .int (nI (σ.1 13 o 0))) (rfl) ?_
        refine gx_goto dX5_putValues_42 (tgt := 49) (by decide) ?_
        rw [← hky]
        refine gx_istore_n dX5_putValues_49 (by decide) rfl (L' := [some (.ref (A 5 0 0)), some (.ref (A 4 g o)), some (.ref (A 3 o 0)), some (.int (nI (sc_ky σ g o)))]) rfl ?_
        refine gx_aload_n dX5_putValues_50 rfl ?_
        refine gx_get dX5_putValues_51 gf_X5_25 (gs_g5 R ) (v := .ref (A 0 0 0)) (rfl) ?_
        have e20 := R.2.1.1
        have hfr := R.fresh
        refine gx_new dX5_putValues_54 gk_X2 wc_X5_108 wn_X2 wi_X2 (fs := [.int 0, .int 0, .null, .int 0]) (by decide) ?_
        have hraw := gx_push_at h 4 (gx_ob 2 [.int 0, .int 0, .null, .int 0])
        have hfr := hfr.nw 4
        have R := R.push 4 (gx_ob 2 [.int 0, .int 0, .null, .int 0])
        refine gx_dup dX5_putValues_57 rfl ?_
        refine gx_iconst dX5_putValues_58 (v := 2) (by decide) ?_
        refine gx_aload_n dX5_putValues_59 rfl ?_
        refine gx_get dX5_putValues_60 gf_X5_125 (gs_g4 R hp) (v := .int (nI g)) (rfl) ?_
        refine gx_aload_n dX5_putValues_63 rfl ?_
        refine gx_get dX5_putValues_64 gf_X5_220 (gs_g4 R hp) (v := .ref (A 4 g9 o)) (by show some (va_rf (gs_op (σ.1 7 _ _) _)) = _; rw [hot]; rfl) ?_
        refine gx_aload_n dX5_putValues_67 rfl ?_
        refine gx_get dX5_putValues_68 gf_X5_9 (gs_g5 R ) (v := .ref (A 8 0 0)) (rfl) ?_
        refine gx_iload_n dX5_putValues_71 rfl ?_
        refine gq_8 dX5_putValues_72 R  (q := sc_ky σ g o) (rfl) (sc_ky_lt W g o) (v := (sc_nw σ 4).2.1 19 (sc_ky σ g o) 0) (rfl) ?_
        refine gx_invI dX5_putValues_73 wm_X5_213 gt_X2_init rfl rfl wy_X2_init (As := [.int 2, .int (nI g), .ref (A 4 g9 o), .int ((sc_nw σ 4).2.1 19 (sc_ky σ g o) 0)]) (rest := [.ref h.1, .ref (A 0 0 0)]) rfl rfl (Nat.le_of_ble_eq_true rfl) (by decide) (cc_X2_init (h := gx_push h 4 (gx_ob 2 [.int 0, .int 0, .null, .int 0])) (a := h.1) 2 (nI g) (A 4 g9 o) ((sc_nw σ 4).2.1 19 (sc_ky σ g o) 0) hraw) (fun r1 hN q1 => ?_)
        obtain ⟨rfl, rfl⟩ := q1
        show gx_Ev _ _ _ _ _ [.ref h.1, .ref (A 0 0 0)] _ _
        have R := R.raw hfr (gx_ob 2 [.int 2, .int (nI g), .ref (A 4 g9 o), .int ((sc_nw σ 4).2.1 19 (sc_ky σ g o) 0)])
        have hc9 := gx_set_at (gx_push h 4 (gx_ob 2 [.int 0, .int 0, .null, .int 0])) h.1 (gx_ob 2 [.int 2, .int (nI g), .ref (A 4 g9 o), .int ((sc_nw σ 4).2.1 19 (sc_ky σ g o) 0)])
        refine gx_invV dX5_putValues_76 wm_X5_216 gt_X0_put wy_X0_put wl_X0_put (ci := 0) rfl rfl (gs_g0 R) (As := [.ref h.1]) (rest := []) rfl rfl (Nat.le_of_ble_eq_true rfl) (by decide) (cc_X0_put R (gw_oth (gw_oth W (by decide)) (by decide)) (a := h.1) (Nat.lt_succ_self _) hc9) (fun r1 hN q1 => ?_)
        obtain ⟨R, rfl⟩ := q1
        rw [e20] at R
        have R : gs_R _ (sc_pm σ 2 (nI g) g9 o ((sc_nw σ 4).2.1 19 (sc_ky σ g o) 0)) A := R
        show gx_Ev _ _ _ _ _ [] _ _
        clear hc9 hfr hraw e20
        revert R
        generalize hN = h
        intro R
        have hp : (sc_pm σ 2 (nI g) g9 o ((sc_nw σ 4).2.1 19 (sc_ky σ g o) 0)).1 6 g o = 1 := by rw [sc_pm_f (by decide)]; exact hp
        refine gx_aload_n dX5_putValues_79 rfl ?_
        refine gx_iconst dX5_putValues_80 (v := 1) (by decide) ?_
        refine gp_I12 (σ := (sc_pm σ 2 (nI g) g9 o ((sc_nw σ 4).2.1 19 (sc_ky σ g o) 0))) hp dX5_putValues_81 gf_X5_262 R (by first | exact Or.inl rfl | exact Or.inr rfl) (v := 1) (fun h R hs0 => ?_)
        refine gx_return dX5_putValues_84 ?_
        exact ⟨rfl, by rw [sc_pv, if_neg (by omega), if_pos k1, hot]; exact R, rfl⟩
    · refine gx_return dX5_putValues_14 ?_
      exact ⟨rfl, by rw [sc_pv, if_neg (by omega), if_neg k1]; exact R, rfl⟩
