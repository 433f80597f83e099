/-! the class: send -/
theorem sc_no_f {σ : gs_T} {q cl u v : Nat} {k c t : Int32} {b : Int64} {x : Nat} (h1 : x ≠ 11) (h2 : x ≠ 12) (h3 : x ≠ 13) (h4 : x ≠ 14) : (sc_no σ q cl k u v c t b).1 x = σ.1 x := (gs_u_ne h4).trans ((gs_u_ne h3).trans ((gs_u_ne h2).trans (gs_u_ne h1)))
theorem gw_no {σ : gs_T} (W : gw_W σ) {q cl u v : Nat} {k c t : Int32} {b : Int64} (hq : σ.1 1 0 0 = q) (hq4 : q < 40) (hcl : cl < 4) (hu : u < 16) (hv : v < 16) : gw_W (gs_n (sc_no σ q cl k u v c t b) 1 0 0 (q + 1)) := by
  have E : ∀ t', t' ≠ 1 → t' ≠ 11 → t' ≠ 12 → t' ≠ 13 → t' ≠ 14 → (gs_n (sc_no σ q cl k u v c t b) 1 0 0 (q + 1)).1 t' = σ.1 t' := fun t' h0 h1 h2 h3 h4 => (gs_u_ne h0).trans (sc_no_f h1 h2 h3 h4)
  have e1 : (gs_n (sc_no σ q cl k u v c t b) 1 0 0 (q + 1)).1 1 0 0 = q + 1 := by simp [gs_n, gs_u]
  have e11 : ∀ y, (gs_n (sc_no σ q cl k u v c t b) 1 0 0 (q + 1)).1 11 y 0 = if y = q then 1 else σ.1 11 y 0 := fun y => by simp [sc_no, gs_l, gs_i, gs_n, gs_u]
  have e12 : ∀ y, (gs_n (sc_no σ q cl k u v c t b) 1 0 0 (q + 1)).1 12 y 0 = if y = q then cl else σ.1 12 y 0 := fun y => by simp [sc_no, gs_l, gs_i, gs_n, gs_u]
  have e13 : ∀ y, (gs_n (sc_no σ q cl k u v c t b) 1 0 0 (q + 1)).1 13 y 0 = if y = q then u else σ.1 13 y 0 := fun y => by simp [sc_no, gs_l, gs_i, gs_n, gs_u]
  have e14 : ∀ y, (gs_n (sc_no σ q cl k u v c t b) 1 0 0 (q + 1)).1 14 y 0 = if y = q then v else σ.1 14 y 0 := fun y => by simp [sc_no, gs_l, gs_i, gs_n, gs_u]
  have F : ∀ t', t' = 0 ∨ t' = 2 ∨ t' = 3 ∨ t' = 4 ∨ t' = 5 ∨ t' = 6 ∨ t' = 7 ∨ t' = 8 ∨ t' = 9 ∨ t' = 10 ∨ t' = 15 → (gs_n (sc_no σ q cl k u v c t b) 1 0 0 (q + 1)).1 t' = σ.1 t' := fun t' ht => E t' (by omega) (by omega) (by omega) (by omega) (by omega)
  obtain ⟨w1, w2, w3, w4, w5, w6, w7, w8, w9, w10, w11, w12, w13, w14⟩ := W
  refine ⟨by rw [F 0 (by omega), e1, F 2 (by omega)]; exact ⟨w1.1, w1.2.1, by omega, w1.2.2.2⟩, by rw [F 0 (by omega), F 15 (by omega)]; exact w2, ?_, by rw [F 2 (by omega), F 10 (by omega)]; exact w4, by rw [F 6 (by omega), F 8 (by omega), F 9 (by omega), F 10 (by omega)]; exact w5, ?_, by rw [F 6 (by omega), F 7 (by omega)]; exact w7, by rw [F 6 (by omega), F 5 (by omega)]; exact w8, by rw [F 0 (by omega), F 3 (by omega), F 5 (by omega)]; exact w9, by rw [F 3 (by omega)]; exact w10, by rw [F 3 (by omega), F 4 (by omega)]; exact w11, ?_, ?_, ?_⟩
  · intro y hy
    rw [e1] at hy
    rw [e11]
    split
    · rfl
    · exact w3 y (by omega)
  · intro x y hxy
    rw [F 6 (by omega)] at hxy
    rw [F 0 (by omega), e1]
    have := w6 x y hxy
    exact ⟨this.1, by omega⟩
  · intro y
    rw [e12]
    split
    · exact hcl
    · exact w12 y
  · intro y
    rw [e13]
    split
    · exact hu
    · exact w13 y
  · intro y
    rw [e14]
    split
    · exact hv
    · exact w14 y
def sc_s1 (σ : gs_T) (cl : Nat) (k : Int32) (u v : Nat) (c : Int32) : gs_T := gs_n (sc_no (sc_nw σ 10) (σ.1 1 0 0) cl k u (if k = 0 then u else v) c (σ.2.1 20 cl 0) (sc_ab σ (nI cl) (σ.1 1 0 0))) 1 0 0 (σ.1 1 0 0 + 1)
def sc_s2 (σ : gs_T) (cl : Nat) (k : Int32) (u v : Nat) (c : Int32) : gs_T := sc_ps (sc_s1 σ cl k u v c) (σ.1 1 0 0)
theorem sc_s1_W {σ : gs_T} (W : gw_W σ) {cl u v : Nat} {k c : Int32} (hq4 : σ.1 1 0 0 < 40) (hcl : cl < 4) (hu : u < 16) (hv : v < 16) : gw_W (sc_s1 σ cl k u v c) := gw_no (gw_nw W 10) rfl hq4 hcl hu (by split <;> assumption)
theorem sc_ab_nw (σ : gs_T) (n : Nat) (x : Int32) (m : Nat) : sc_ab (sc_nw σ n) x m = sc_ab σ x m := by
  induction m with
  | zero => rfl
  | succ m ih => rw [sc_ab, sc_ab, ih]; rfl
theorem sc_ps_f {σ : gs_T} {q t : Nat} (ht : sc_pf t = false) (h6 : t ≠ 6) (h7 : t ≠ 7) : (sc_ps σ q).1 t = σ.1 t := by
  have hn : ∀ (τ : gs_T) (n : Nat), (sc_nw τ n).1 t = τ.1 t := fun τ n => (gs_u_ne (fun e => by rw [e] at ht; cases ht)).trans (gs_u_ne (fun e => by rw [e] at ht; cases ht))
  unfold sc_ps sc_ps2
  split
  · rw [sc_pm_f ht, sc_np_f h6 h7, hn]
  · unfold sc_ps3
    rw [show (gs_n (gs_n (sc_pm _ 0 (-1) _ q 0) 7 _ q _) 7 _ q _).1 t = (sc_pm _ 0 (-1) _ q 0).1 t from (gs_u_ne h7).trans (gs_u_ne h7), sc_pm_f ht, sc_np_f h6 h7, hn, sc_pm_f ht, sc_np_f h6 h7, hn]
set_option maxHeartbeats 4000000 in
theorem cl_sd2 {S : gx_S} {h : gx_H} {σ : gs_T} {A : gs_A} (R : gs_R h σ A) {B : gs_A} {q : Nat} {x k a b c : Int32} (hq : σ.1 1 0 0 = q) (W : gw_W (gs_n σ 1 0 0 (q + 1))) (hh : ¬ σ.1 32 0 0 = 1) (hno : ∀ g, ¬ σ.1 6 g q = 1) (hl : σ.1 11 q 0 = 1) (hB : ∀ i, i ≠ 3 → A i = B i) : gx_Ev S gm_X5_send 4 76 [some (.ref (A 5 0 0)), some (.int x), some (.int k), some (.int a), some (.int b), some (.int c), some (.ref (A 3 q 0))] [] h (fun r h' => gx_rt (some .int) r ∧ ∃ A1 : gs_A, gs_R h' (sc_ps (gs_n σ 1 0 0 (q + 1)) q) A1 ∧ (∀ i, i ≠ 3 → i ≠ 4 → A1 i = B i) ∧ r = some (.int (nI q))) := by
  refine gx_aload_n dX5_send_76 rfl ?_
  refine gx_dup dX5_send_77 rfl ?_
  refine gx_get dX5_send_78 gf_X5_59 (gs_g5 R ) (v := .int (nI (σ.1 1 0 0))) (rfl) ?_
  refine gx_iconst dX5_send_81 (v := 1) (by decide) ?_
  refine gx_iadd dX5_send_82 ?_
  rw [show ((nI (σ.1 1 0 0)) + 1 : Int32) = nI (σ.1 1 0 0 + 1) from nI_1 _]
  refine gp_N1 (σ := σ)  dX5_send_83 gf_X5_59 R (rfl) (v := σ.1 1 0 0 + 1) (fun h R hs0 => ?_)
  refine gx_aload_n dX5_send_86 rfl ?_
  refine gx_aload dX5_send_87 rfl ?_
  rw [hq] at R
  refine gx_invV dX5_send_89 wm_X5_81 gt_X5_putStarts wy_X5_putStarts wl_X5_putStarts (ci := 5) rfl rfl (gs_g5 R ) (As := [.ref (A 3 q 0)]) (rest := []) rfl rfl (Nat.le_of_ble_eq_true rfl) (by decide) (cc_X5_putStarts R W hh (show q < q + 1 by omega) hno) (fun r1 h q1 => ?_)
  obtain ⟨A1, R, hA, rfl⟩ := q1
  rw [← hA 5 (by decide), ← hA 3 (by decide)]
  show gx_Ev _ _ _ _ _ [] _ _
  revert R hA
  generalize hA9 : A = A0 at hB ⊢
  clear hA9
  generalize A1 = A
  intro R hA
  have hl9 : (sc_ps (gs_n σ 1 0 0 (q + 1)) q).1 11 q 0 = 1 := by rw [sc_ps_f (by decide) (by decide) (by decide)]; exact hl
  refine gx_aload dX5_send_92 rfl ?_
  refine gx_get dX5_send_94 gf_X5_85 (gs_g3 R hl9) (v := .int (nI q)) (rfl) ?_
  refine gx_ireturn dX5_send_97 ?_
  exact ⟨⟨_, rfl, rfl⟩, A, R, fun i h3 h4 => (hA i h4).trans (hB i h3), rfl⟩
set_option maxHeartbeats 4000000 in
theorem cl_sd1 {S : gx_S} {h : gx_H} {σ : gs_T} {A : gs_A} (R : gs_R h σ A) (W : gw_W σ) {cl u v : Nat} {k c : Int32} (hh : ¬ σ.1 32 0 0 = 1) (hq4 : σ.1 1 0 0 < 40) (hcl : cl < 4) (hu : u < 16) (hv : v < 16) : gx_Ev S gm_X5_send 4 24 [some (.ref (A 5 0 0)), some (.int (nI cl)), some (.int k), some (.int (nI u)), some (.int (nI v)), some (.int c), none] [] h (fun r h' => gx_rt (some .int) r ∧ ∃ A1 : gs_A, gs_R h' (sc_s2 σ cl k u v c) A1 ∧ (∀ i, i ≠ 3 → i ≠ 4 → A1 i = A i) ∧ r = some (.int (nI (σ.1 1 0 0)))) := by
  have W10 := gw_nw W 10
  have hnp : ∀ g, ¬ σ.1 6 g (σ.1 1 0 0) = 1 := fun g z => absurd (gw_p W z).2 (Nat.lt_irrefl _)
  have e20 := R.2.1.1
  have hfr := R.fresh
  refine gx_new dX5_send_24 gk_X3 wc_X5_16 wn_X3 wi_X3 (fs := [.int 0, .int 0, .int 0, .int 0, .int 0, .int 0, .int 0, .long 0, .int 0, .int 0]) (by decide) ?_
  have hraw := gx_push_at h 10 (gx_ob 3 [.int 0, .int 0, .int 0, .int 0, .int 0, .int 0, .int 0, .long 0, .int 0, .int 0])
  have hfr := hfr.nw 10
  have R := R.push 10 (gx_ob 3 [.int 0, .int 0, .int 0, .int 0, .int 0, .int 0, .int 0, .long 0, .int 0, .int 0])
  refine gx_dup dX5_send_27 rfl ?_
  refine gx_aload_n dX5_send_28 rfl ?_
  refine gx_get dX5_send_29 gf_X5_59 (gs_g5 R ) (v := .int (nI ((sc_nw σ 10).1 1 0 0))) (rfl) ?_
  refine gx_iload_n dX5_send_32 rfl ?_
  refine gx_iload_n dX5_send_33 rfl ?_
  refine gx_iload_n dX5_send_34 rfl ?_
  refine gx_iload dX5_send_35 rfl ?_
  refine gx_iload dX5_send_37 rfl ?_
  refine gx_invI dX5_send_39 wm_X5_67 gt_X3_init rfl rfl wy_X3_init (As := [.int (nI ((sc_nw σ 10).1 1 0 0)), .int (nI cl), .int k, .int (nI u), .int (nI v), .int c]) (rest := [.ref h.1]) rfl rfl (Nat.le_of_ble_eq_true rfl) (by decide) (cc_X3_init (h := gx_push h 10 (gx_ob 3 [.int 0, .int 0, .int 0, .int 0, .int 0, .int 0, .int 0, .long 0, .int 0, .int 0])) (a := h.1) (nI (σ.1 1 0 0)) (nI cl) k (nI u) (nI v) c hraw) (fun r1 hN q1 => ?_)
  obtain ⟨rfl, rfl⟩ := q1
  show gx_Ev _ _ _ _ _ [.ref h.1] _ _
  have R := R.raw hfr (gx_ob 3 [.int (nI (σ.1 1 0 0)), .int (nI cl), .int k, .int (nI u), .int (if k = 0 then nI u else nI v), .int c, .int 0, .long 0, .int 0, .int 0])
  have hc9 := gx_set_at (gx_push h 10 (gx_ob 3 [.int 0, .int 0, .int 0, .int 0, .int 0, .int 0, .int 0, .long 0, .int 0, .int 0])) h.1 (gx_ob 3 [.int (nI (σ.1 1 0 0)), .int (nI cl), .int k, .int (nI u), .int (if k = 0 then nI u else nI v), .int c, .int 0, .long 0, .int 0, .int 0])
  refine gx_astore dX5_send_42 (by decide) rfl (L' := [some (.ref (A 5 0 0)), some (.int (nI cl)), some (.int k), some (.int (nI u)), some (.int (nI v)), some (.int c), some (.ref h.1)]) rfl ?_
  refine gx_aload dX5_send_44 rfl ?_
  refine gx_aload_n dX5_send_46 rfl ?_
  refine gx_get dX5_send_47 gf_X5_13 (gs_g5 R ) (v := .ref (A 9 0 0)) (rfl) ?_
  refine gx_iload_n dX5_send_50 rfl ?_
  refine gq_9 dX5_send_51 R  (q := cl) (rfl) (hcl) (v := (sc_nw σ 10).2.1 20 cl 0) (rfl) ?_
  refine gx_put dX5_send_52 gf_X5_70 hc9 (by simp) rfl rfl ?_
  show gx_Ev _ _ _ _ _ [] (gx_set (gx_set (gx_push h 10 (gx_ob 3 [.int 0, .int 0, .int 0, .int 0, .int 0, .int 0, .int 0, .long 0, .int 0, .int 0])) h.1 (gx_ob 3 [.int (nI (σ.1 1 0 0)), .int (nI cl), .int k, .int (nI u), .int (if k = 0 then nI u else nI v), .int c, .int 0, .long 0, .int 0, .int 0])) h.1 (gx_ob 3 [.int (nI (σ.1 1 0 0)), .int (nI cl), .int k, .int (nI u), .int (if k = 0 then nI u else nI v), .int c, .int (σ.2.1 20 cl 0), .long 0, .int 0, .int 0])) _
  have R := R.raw hfr (gx_ob 3 [.int (nI (σ.1 1 0 0)), .int (nI cl), .int k, .int (nI u), .int (if k = 0 then nI u else nI v), .int c, .int (σ.2.1 20 cl 0), .long 0, .int 0, .int 0])
  have hc9 := gx_set_at (gx_set (gx_push h 10 (gx_ob 3 [.int 0, .int 0, .int 0, .int 0, .int 0, .int 0, .int 0, .long 0, .int 0, .int 0])) h.1 (gx_ob 3 [.int (nI (σ.1 1 0 0)), .int (nI cl), .int k, .int (nI u), .int (if k = 0 then nI u else nI v), .int c, .int 0, .long 0, .int 0, .int 0])) h.1 (gx_ob 3 [.int (nI (σ.1 1 0 0)), .int (nI cl), .int k, .int (nI u), .int (if k = 0 then nI u else nI v), .int c, .int (σ.2.1 20 cl 0), .long 0, .int 0, .int 0])
  refine gx_aload dX5_send_55 rfl ?_
  refine gx_aload_n dX5_send_57 rfl ?_
  refine gx_iload_n dX5_send_58 rfl ?_
  refine gx_invV dX5_send_59 wm_X5_73 gt_X5_answeredOrdersOf wy_X5_answeredOrdersOf wl_X5_answeredOrdersOf (ci := 5) rfl rfl (gs_g5 R ) (As := [.int (nI cl)]) (rest := [.ref h.1]) rfl rfl (Nat.le_of_ble_eq_true rfl) (by decide) (cc_X5_answeredOrdersOf R W10 (nI cl)) (fun r1 h q1 => ?_)
  obtain ⟨rfl, rfl⟩ := q1
  show gx_Ev _ _ _ _ _ [.long (sc_ab (sc_nw σ 10) (nI cl) (σ.1 1 0 0)), .ref h.1] _ _
  rw [sc_ab_nw]
  refine gx_put dX5_send_62 gf_X5_77 hc9 (by simp) rfl rfl ?_
  show gx_Ev _ _ _ _ _ [] (gx_set (gx_set (gx_set (gx_push h 10 (gx_ob 3 [.int 0, .int 0, .int 0, .int 0, .int 0, .int 0, .int 0, .long 0, .int 0, .int 0])) h.1 (gx_ob 3 [.int (nI (σ.1 1 0 0)), .int (nI cl), .int k, .int (nI u), .int (if k = 0 then nI u else nI v), .int c, .int 0, .long 0, .int 0, .int 0])) h.1 (gx_ob 3 [.int (nI (σ.1 1 0 0)), .int (nI cl), .int k, .int (nI u), .int (if k = 0 then nI u else nI v), .int c, .int (σ.2.1 20 cl 0), .long 0, .int 0, .int 0])) h.1 (gx_ob 3 [.int (nI (σ.1 1 0 0)), .int (nI cl), .int k, .int (nI u), .int (if k = 0 then nI u else nI v), .int c, .int (σ.2.1 20 cl 0), .long (sc_ab σ (nI cl) (σ.1 1 0 0)), .int 0, .int 0])) _
  have R := R.raw hfr (gx_ob 3 [.int (nI (σ.1 1 0 0)), .int (nI cl), .int k, .int (nI u), .int (if k = 0 then nI u else nI v), .int c, .int (σ.2.1 20 cl 0), .long (sc_ab σ (nI cl) (σ.1 1 0 0)), .int 0, .int 0])
  have hc9 := gx_set_at (gx_set (gx_set (gx_push h 10 (gx_ob 3 [.int 0, .int 0, .int 0, .int 0, .int 0, .int 0, .int 0, .long 0, .int 0, .int 0])) h.1 (gx_ob 3 [.int (nI (σ.1 1 0 0)), .int (nI cl), .int k, .int (nI u), .int (if k = 0 then nI u else nI v), .int c, .int 0, .long 0, .int 0, .int 0])) h.1 (gx_ob 3 [.int (nI (σ.1 1 0 0)), .int (nI cl), .int k, .int (nI u), .int (if k = 0 then nI u else nI v), .int c, .int (σ.2.1 20 cl 0), .long 0, .int 0, .int 0])) h.1 (gx_ob 3 [.int (nI (σ.1 1 0 0)), .int (nI cl), .int k, .int (nI u), .int (if k = 0 then nI u else nI v), .int c, .int (σ.2.1 20 cl 0), .long (sc_ab σ (nI cl) (σ.1 1 0 0)), .int 0, .int 0])
  refine gx_aload_n dX5_send_65 rfl ?_
  refine gx_get dX5_send_66 gf_X5_18 (gs_g5 R ) (v := .ref (A 10 0 0)) (rfl) ?_
  refine gx_aload_n dX5_send_69 rfl ?_
  refine gx_get dX5_send_70 gf_X5_59 (gs_g5 R ) (v := .int (nI ((sc_nw σ 10).1 1 0 0))) (rfl) ?_
  refine gx_aload dX5_send_73 rfl ?_
  refine gx_aast dX5_send_75 (t := 4) (ci := 3) ⟨_, rfl, rfl, by decide⟩ (gs_g10 R) hc9 (vp_in_nI hq4 (by omega)) ?_
  rw [show (nI ((sc_nw σ 10).1 1 0 0)).toNatClampNeg = σ.1 1 0 0 from nI_clamp (show σ.1 1 0 0 < 2 ^ 31 by omega)]
  have eb : (if k = 0 then nI u else nI v) = nI (if k = 0 then u else v) := by split <;> rfl
  have R := R.adO (q := σ.1 1 0 0) (a := h.1) (Nat.lt_succ_self _) hfr hnp (hc9.trans (by rw [eb]))
  have e5 : A 5 0 0 = gs_u A 3 (σ.1 1 0 0) 0 h.1 5 0 0 := (congrFun (congrFun (gs_u_ne (by decide)) 0) 0).symm
  have e3 : h.1 = gs_u A 3 (σ.1 1 0 0) 0 h.1 3 (σ.1 1 0 0) 0 := by rw [gs_u_at, if_pos ⟨rfl, rfl⟩]
  have k9 := cl_sd2 (S := S) (B := A) (q := σ.1 1 0 0) (x := nI cl) (k := k) (a := nI u) (b := nI v) (c := c) R rfl (sc_s1_W W hq4 hcl hu hv) hh hnp (by rw [sc_no_11, if_pos rfl]) (fun i h3 => gs_u_ne h3)
  rw [← e5, ← e3] at k9
  exact k9
abbrev sc_snc (σ : gs_T) (x k a b c : Int32) : Prop := σ.1 1 0 0 < 40 ∧ sv_ok x k a b c
def sc_send (σ : gs_T) (x k a b c : Int32) : gs_T := if sc_snc σ x k a b c then sc_s2 σ x.toNatClampNeg k a.toNatClampNeg b.toNatClampNeg c else σ
def sc_sendr (σ : gs_T) (x k a b c : Int32) : Int32 := if sc_snc σ x k a b c then nI (σ.1 1 0 0) else -1
set_option maxHeartbeats 4000000 in
theorem cc_X5_send {S : gx_S} {h : gx_H} {σ : gs_T} {A : gs_A} (R : gs_R h σ A) (W : gw_W σ) (x k a b c : Int32) (hh : ¬ σ.1 32 0 0 = 1) : gx_Cn S gm_X5_send 4 [.ref (A 5 0 0), .int x, .int k, .int a, .int b, .int c] h (fun r h' => ∃ A1 : gs_A, gs_R h' (sc_send σ x k a b c) A1 ∧ (∀ i, i ≠ 3 → i ≠ 4 → A1 i = A i) ∧ r = some (.int (sc_sendr σ x k a b c))) := by
  refine gx_Cn.of gt_X5_send (by simp [Value.category]) (Nat.le_of_ble_eq_true rfl) ?_
  show gx_Ev S gm_X5_send 4 0 [some (.ref (A 5 0 0)), some (.int x), some (.int k), some (.int a), some (.int b), some (.int c), none] [] h _
  refine gx_aload_n dX5_send_0 rfl ?_
  refine gx_get dX5_send_1 gf_X5_59 (gs_g5 R ) (v := .int (nI (σ.1 1 0 0))) (rfl) ?_
  refine gx_bipush dX5_send_4 (v := 40) (by decide) ?_
  refine gx_icmp_ge dX5_send_6 (tgt := 22) (by decide) (fun h0 => ?_) (fun h0 => ?_)
  · have hlt : ¬ σ.1 1 0 0 < 40 := fun z => nI_ge z (by decide) h0
    refine gx_iconst dX5_send_22 (v := (-1)) (by decide) ?_
    refine gx_ireturn dX5_send_23 ?_
    exact ⟨⟨_, rfl, rfl⟩, A, by rw [sc_send, if_neg (fun z => hlt z.1)]; exact R, fun i _ _ => rfl, by rw [sc_sendr, if_neg (fun z => hlt z.1)]⟩
  · have hlt : σ.1 1 0 0 < 40 := Nat.lt_of_not_le (fun z => h0 (nI_le z (by have := gw_cnt W; omega)))
    refine gx_iload_n dX5_send_9 rfl ?_
    refine gx_iload_n dX5_send_10 rfl ?_
    refine gx_iload_n dX5_send_11 rfl ?_
    refine gx_iload dX5_send_12 rfl ?_
    refine gx_iload dX5_send_14 rfl ?_
    refine gx_invS dX5_send_16 wm_X5_63 gt_X5_isOrder ws_X5_isOrder (As := [.int x, .int k, .int a, .int b, .int c]) (rest := []) rfl rfl (Nat.le_of_ble_eq_true rfl) (by decide) (cc_X5_isOrder x k a b c) (fun r1 h q1 => ?_)
    obtain ⟨rfl, rfl⟩ := q1
    show gx_Ev _ _ _ _ _ [.int (gs_bi (sv_ok x k a b c))] _ _
    refine gx_if_ne dX5_send_19 (tgt := 24) (by decide) (fun hb => ?_) (fun hb => ?_)
    · have hb := gs_b1 hb
      have hx := gs_ixl (N := 4) rfl hb.1 (by decide)
      have ha := gs_ixl (N := 16) rfl hb.2.2.1 (by decide)
      have hv := gs_ixl (N := 16) rfl hb.2.2.2.1 (by decide)
      have k9 := cl_sd1 (S := S) (k := k) (c := c) R W hh hlt hx.2 ha.2 hv.2
      rw [← hx.1, ← ha.1, ← hv.1] at k9
      rw [sc_send, if_pos ⟨hlt, hb⟩, sc_sendr, if_pos ⟨hlt, hb⟩]
      exact k9
    · have hb := gs_b0 hb
      refine gx_iconst dX5_send_22 (v := (-1)) (by decide) ?_
      refine gx_ireturn dX5_send_23 ?_
      exact ⟨⟨_, rfl, rfl⟩, A, by rw [sc_send, if_neg (fun z => hb z.2)]; exact R, fun i _ _ => rfl, by rw [sc_sendr, if_neg (fun z => hb z.2)]⟩
