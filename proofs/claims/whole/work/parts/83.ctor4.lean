/-! GroupOrder.<init>: the groups, the values -/
def gi_0 (n b s : Nat) : gs_T := (fun k _ _ => if k = 0 then n else if k = 100 then n else if k = 20 then b else if k = 21 then s else if k = 128 then 1 else 0, fun k _ _ => if k = 6 then 1 else 0, fun _ => 0)
def gi_A (a b : Nat) : gs_A := fun k _ _ => if k = 5 then a else if k = 8 then b else if k = 9 then b + 1 else if k = 10 then b + 2 else if k = 0 then b + 3 else if k = 15 then b + 4 else if k = 11 then b + 5 else if k = 12 then b + 6 else b + 7
theorem gi_0lv {n b s k i j : Nat} (hl : gs_lv (gi_0 n b s) k i j) : i = 0 ∧ j = 0 ∧ (k = 5 ∨ k = 8 ∨ k = 9 ∨ k = 10 ∨ k = 0 ∨ k = 15 ∨ k = 11 ∨ k = 12 ∨ k = 7) := by
  unfold gs_lv at hl
  split at hl
  all_goals first | exact ⟨hl.1, hl.2, by decide⟩ | exact absurd (show (0 : Nat) = 1 from hl.1) (by decide) | exact absurd (show (0 : Nat) = 1 from hl) (by decide) | exact False.elim hl
set_option maxHeartbeats 4000000 in
theorem gi_R0 {h : gx_H} {a : Nat} {x : Int32} {H : gx_H} (hlt : a < h.1) (F : gi_f h a x H) : gs_R H (gi_0 (gi_n x) (h.1 + 8) (h.2.1 + (334 + gi_n x))) (gi_A a h.1) := by
  obtain ⟨f1, f2, c5, c8, c9, c10, c0, c15, c11, c12, c7⟩ := F
  refine ⟨fun k i j hl => ?_, ⟨f1, f2⟩, fun k i j k' i' j' g1 g2 l1 l2 he => ?_⟩
  · obtain ⟨rfl, rfl, hk⟩ := gi_0lv hl
    rw [f1]
    rcases hk with rfl | rfl | rfl | rfl | rfl | rfl | rfl | rfl | rfl
    · exact ⟨show a < h.1 + 8 by omega, c5⟩
    · exact ⟨show h.1 < h.1 + 8 by omega, c8⟩
    · exact ⟨show h.1 + 1 < h.1 + 8 by omega, c9⟩
    · exact ⟨show h.1 + 2 < h.1 + 8 by omega, c10⟩
    · exact ⟨show h.1 + 3 < h.1 + 8 by omega, c0⟩
    · exact ⟨show h.1 + 4 < h.1 + 8 by omega, c15⟩
    · exact ⟨show h.1 + 5 < h.1 + 8 by omega, c11⟩
    · exact ⟨show h.1 + 6 < h.1 + 8 by omega, c12⟩
    · exact ⟨show h.1 + 7 < h.1 + 8 by omega, c7⟩
  · obtain ⟨rfl, rfl, hk⟩ := gi_0lv l1
    obtain ⟨rfl, rfl, hk'⟩ := gi_0lv l2
    refine ⟨?_, rfl, rfl⟩
    rcases hk with rfl | rfl | rfl | rfl | rfl | rfl | rfl | rfl | rfl <;> rcases hk' with rfl | rfl | rfl | rfl | rfl | rfl | rfl | rfl | rfl <;> first | rfl | (simp [gi_A] at he; done) | (simp [gi_A] at he; omega)
def gi_g (σ : gs_T) (g : Nat) : gs_T := match g with
  | 0 => σ
  | g + 1 => sc_ng (gi_g σ g) g
theorem gi_g_f {σ : gs_T} {t : Nat} (h15 : t ≠ 15) (h20 : t ≠ 20) (h21 : t ≠ 21) (g : Nat) : (gi_g σ g).1 t = σ.1 t := by
  induction g with
  | zero => rfl
  | succ g ih =>
    have : (sc_ng (gi_g σ g) g).1 t = (gi_g σ g).1 t := (gs_u_ne h15).trans ((gs_u_ne h21).trans ((gs_u_ne h20).trans ((gs_u_ne h21).trans ((gs_u_ne h20).trans ((gs_u_ne h21).trans (gs_u_ne h20))))))
    exact this.trans ih
theorem gi_g_i {σ : gs_T} (g : Nat) : (gi_g σ g).2 = σ.2 := by
  induction g with
  | zero => rfl
  | succ g ih => exact ih
theorem gi_g_15 {σ : gs_T} (h : ∀ y, σ.1 15 y 0 = 0) (g y : Nat) : (gi_g σ g).1 15 y 0 = if y < g then 1 else 0 := by
  induction g with
  | zero => exact h y
  | succ g ih =>
    show (sc_ng (gi_g σ g) g).1 15 y 0 = _
    rw [sc_ng_15, ih]
    by_cases h1 : y = g
    · rw [if_pos h1, if_pos (by omega)]
    · rw [if_neg h1]
      by_cases h2 : y < g
      · rw [if_pos h2, if_pos (by omega)]
      · rw [if_neg h2, if_neg (by omega)]
set_option maxHeartbeats 4000000 in
theorem cl_fill8 {S : gx_S} {h0 : gx_H} {σ : gs_T} {A : gs_A} (v : Int32) : ∀ (m q : Nat) (h : gx_H), q + m = 16 → gs_R h (sc_fl 19 v σ q) A → gs_sm h0 h → gx_Ev S gm_J7_fill_53178 1 5 [some (.ref (A 8 0 0)), some (.int v), some (.int (nI q)), some (.int 16)] [] h (fun r h' => gx_rt none r ∧ gs_R h' (sc_fl 19 v σ 16) A ∧ gs_sm h0 h' ∧ r = none) := by
  intro m
  induction m with
  | zero =>
    intro q h hq R hs
    have hq0 : q = 16 := by omega
    subst hq0
    refine gx_iload_n dJ7_fill_53178_5 rfl ?_
    refine gx_iload_n dJ7_fill_53178_6 rfl ?_
    refine gx_icmp_ge dJ7_fill_53178_7 (tgt := 20) (by decide) (fun hc1 => ?_) (fun hc1 => absurd hc1 (fun z => z (by decide)))
    refine gx_return dJ7_fill_53178_20 ?_
    exact ⟨rfl, R, hs, rfl⟩
  | succ m ih =>
    intro q h hq R hs
    refine gx_iload_n dJ7_fill_53178_5 rfl ?_
    refine gx_iload_n dJ7_fill_53178_6 rfl ?_
    refine gx_icmp_ge dJ7_fill_53178_7 (tgt := 20) (by decide) (fun hc1 => absurd hc1 (nI_ge (a := q) (b := 16) (by omega) (by decide))) (fun hc1 => ?_)
    refine gx_aload_n dJ7_fill_53178_10 rfl ?_
    refine gx_iload_n dJ7_fill_53178_11 rfl ?_
    refine gx_iload_n dJ7_fill_53178_12 rfl ?_
    refine ga_I19 (σ := (sc_fl 19 v σ q))  dJ7_fill_53178_13 R (q := q) (v := v) (rfl) (by omega) (fun h R hs0 => ?_)
    refine gx_iinc dJ7_fill_53178_14 rfl (v := nI (q + 1)) (nI_1 _) (by decide) rfl (L' := [some (.ref (A 8 0 0)), some (.int v), some (.int (nI (q + 1))), some (.int 16)]) rfl ?_
    refine gx_goto dJ7_fill_53178_17 (tgt := 5) (by decide) ?_
    exact ih (q + 1) _ (by omega) R (hs.trans hs0)
set_option maxHeartbeats 4000000 in
theorem cc_fill8 {S : gx_S} {h : gx_H} {σ : gs_T} {A : gs_A} (R : gs_R h σ A) (v : Int32) : gx_Cn S gm_J7_fill_53178 1 [.ref (A 8 0 0), .int v] h (fun r h' => gs_R h' (sc_fl 19 v σ 16) A ∧ gs_sm h h' ∧ r = none) := by
  refine gx_Cn.of gt_J7_fill_53178 (by simp [Value.category]) (Nat.le_of_ble_eq_true rfl) ?_
  show gx_Ev S gm_J7_fill_53178 1 0 [some (.ref (A 8 0 0)), some (.int v), none, none] [] h _
  refine gx_iconst dJ7_fill_53178_0 (v := 0) (by decide) ?_
  refine gx_istore_n dJ7_fill_53178_1 (by decide) rfl (L' := [some (.ref (A 8 0 0)), some (.int v), some (.int 0), none]) rfl ?_
  refine gx_aload_n dJ7_fill_53178_2 rfl ?_
  refine gx_alen dJ7_fill_53178_3 (by decide) (gs_g8 R) (v := 16) rfl ?_
  refine gx_istore_n dJ7_fill_53178_4 (by decide) rfl (L' := [some (.ref (A 8 0 0)), some (.int v), some (.int 0), some (.int 16)]) rfl ?_
  exact cl_fill8 v 16 0 _ rfl R gs_sm.rfl
set_option maxHeartbeats 4000000 in
theorem cl_in2 {S : gx_S} {x : Int32} {n : Nat} {σ : gs_T} {Q : Option Value → gx_H → Prop} (hn : σ.1 0 0 0 = n) (hn4 : n ≤ 4) (z15 : ∀ y, σ.1 15 y 0 = 0) (z5 : ∀ g q, σ.1 5 g q = 0) (z6 : ∀ g q, σ.1 6 g q = 0) (z3 : ∀ g, σ.1 3 g 0 = 0) (z4 : ∀ g, σ.1 4 g 0 = 0) (i6 : ∀ g, σ.2.1 6 g 0 = 1) (i7 : ∀ g, σ.2.1 7 g 0 = 0) : ∀ (m g : Nat) (h : gx_H) (A : gs_A), g + m = n → gs_R h (gi_g σ g) A → (∀ (h : gx_H) (A1 : gs_A), gs_R h (gi_g σ n) A1 → A1 5 = A 5 → gx_Ev S gm_X5_init 2 100 [some (.ref (A1 5 0 0)), some (.int x), some (.int (nI n)), some (.int (nI n))] [] h Q) → gx_Ev S gm_X5_init 2 75 [some (.ref (A 5 0 0)), some (.int x), some (.int (nI n)), some (.int (nI g))] [] h Q := by
  intro m
  induction m with
  | zero =>
    intro g h A hg R K
    have hg0 : g = n := by omega
    subst hg0
    refine gx_iload_n dX5_init_75 rfl ?_
    refine gx_iload_n dX5_init_76 rfl ?_
    refine gx_icmp_ge dX5_init_77 (tgt := 100) (by decide) (fun hc1 => ?_) (fun hc1 => absurd hc1 (fun z => z (Int32.le_refl _)))
    exact K _ _ R rfl
  | succ m ih =>
    intro g h A hg R K
    have e15 := gi_g_15 z15 g
    have n15 : ¬ (gi_g σ g).1 15 g 0 = 1 := by rw [e15, if_neg (by omega)]; decide
    refine gx_iload_n dX5_init_75 rfl ?_
    refine gx_iload_n dX5_init_76 rfl ?_
    refine gx_icmp_ge dX5_init_77 (tgt := 100) (by decide) (fun hc1 => absurd hc1 (nI_ge (by omega) (by omega))) (fun hc1 => ?_)
    refine gx_aload_n dX5_init_80 rfl ?_
    refine gx_get dX5_init_81 gf_X5_46 (gs_g5 R ) (v := .ref (A 7 0 0)) (rfl) ?_
    refine gx_iload_n dX5_init_84 rfl ?_
    have R0 := R
    have e20 := R.2.1.1
    have hfr := R.fresh
    refine gx_new dX5_init_85 gk_X1 wc_X5_44 wn_X1 wi_X1 (fs := [.int 0, .int 0, .int 0, .null, .null, .int 0, .int 0]) (by decide) ?_
    have hraw := gx_push_at h 7 (gx_ob 1 [.int 0, .int 0, .int 0, .null, .null, .int 0, .int 0])
    have hfr := hfr.nw 7
    have R := R.push 7 (gx_ob 1 [.int 0, .int 0, .int 0, .null, .null, .int 0, .int 0])
    refine gx_dup dX5_init_88 rfl ?_
    refine gx_iload_n dX5_init_89 rfl ?_
    refine gx_invI dX5_init_90 wm_X5_50 gt_X1_init rfl rfl wy_X1_init (As := [.int (nI g)]) (rest := [.ref h.1, .int (nI g), .ref (A 7 0 0)]) rfl rfl (Nat.le_of_ble_eq_true rfl) (by decide) (cc_X1_init (h := gx_push h 7 (gx_ob 1 [.int 0, .int 0, .int 0, .null, .null, .int 0, .int 0])) (a := h.1) (Nat.lt_succ_self _) (nI g) hraw) (fun r1 hN q1 => ?_)
    obtain ⟨⟨q1, q2, q3, q4, q5, q6⟩, rfl⟩ := q1
    show gx_Ev _ _ _ _ _ [.ref h.1, .int (nI g), .ref (A 7 0 0)] _ _
    have ho : ∀ q, q < h.1 → hN.2.2 q = h.2.2 q := fun q hq => (q6 q (Nat.lt_succ_of_lt hq) (Nat.ne_of_lt hq)).trans (gx_push_ne _ _ _ (Nat.ne_of_lt hq))
    have e0 : (gi_g σ g).1 0 0 0 = n := by rw [gi_g_f (by decide) (by decide) (by decide)]; exact hn
    have R2 := R0.adG n15 (fun q => by rw [gi_g_f (by decide) (by decide) (by decide)]; exact z5 g q) (fun q => by rw [gi_g_f (by decide) (by decide) (by decide), z6]; decide) ⟨by rw [gi_g_i]; exact i6 g, by rw [gi_g_i]; exact i7 g, by rw [gi_g_f (by decide) (by decide) (by decide)]; exact z3 g, by rw [gi_g_f (by decide) (by decide) (by decide)]; exact z4 g⟩ ⟨q1, q2⟩ q3 ⟨q4, q5⟩ ho
    refine gx_aast dX5_init_93 (t := 2) (ci := 1) ⟨_, rfl, rfl, by decide⟩ ((ho (A 7 0 0) (R0.1 7 0 0 ⟨rfl, rfl⟩).1).trans (gs_g7 R0)) q3 (vp_in_nI (show g < (gi_g σ g).1 0 0 0 by omega) (by omega)) ?_
    rw [nI_clamp (by omega)]
    clear R
    have f5 : gs_aG A g h.1 5 = A 5 := (gs_u_ne (by decide)).trans ((gs_u_ne (by decide)).trans (gs_u_ne (by decide)))
    rw [← f5]
    rw [← f5] at K
    have R2 : gs_R _ (gi_g σ (g + 1)) _ := R2
    revert R2 K
    generalize gs_aG A g h.1 = A2
    generalize gx_set hN _ _ = h2
    intro K R
    refine gx_iinc dX5_init_94 rfl (v := nI (g + 1)) (nI_1 _) (by decide) rfl (L' := [some (.ref (A2 5 0 0)), some (.int x), some (.int (nI n)), some (.int (nI (g + 1)))]) rfl ?_
    refine gx_goto dX5_init_97 (tgt := 75) (by decide) ?_
    exact ih (g + 1) _ A2 (by omega) R K
def gi_1 (x : Int32) (b s : Nat) : gs_T := sc_fl 19 100 (gi_g (gi_0 (gi_n x) (b + 8) (s + (334 + gi_n x))) (gi_n x)) 16
set_option maxHeartbeats 4000000 in
theorem cc_X5_init {S : gx_S} {h : gx_H} {a : Nat} (x : Int32) (hlt : a < h.1) (hA : h.2.2 a = some (gx_ob 5 [.null, .null, .null, .null, .null, .int 0, .int 0, .null, .null])) : gx_Cn S gm_X5_init 2 [.ref a, .int x] h (fun r h' => ∃ A : gs_A, gs_R h' (gi_1 x h.1 h.2.1) A ∧ A 5 0 0 = a ∧ r = none) := by
  refine gx_Cn.of gt_X5_init (by simp [Value.category]) (Nat.le_of_ble_eq_true rfl) ?_
  show gx_Ev S gm_X5_init 2 0 [some (.ref a), some (.int x), none, none] [] h _
  have hb := gi_n_b x
  refine cl_in1 x hlt hA (fun H F => ?_)
  have R := gi_R0 hlt F
  generalize hA0 : gi_A a h.1 = A at R
  have hA5 : a = A 5 0 0 := by rw [← hA0]; rfl
  clear hA0
  rw [hA5]
  refine gx_iconst dX5_init_73 (v := 0) (by decide) ?_
  refine gx_istore_n dX5_init_74 (by decide) rfl (L' := [some (.ref (A 5 0 0)), some (.int x), some (.int (nI (gi_n x))), some (.int 0)]) rfl ?_
  have k9 := cl_in2 (S := S) (x := x) (n := gi_n x) (σ := gi_0 (gi_n x) (h.1 + 8) (h.2.1 + (334 + gi_n x))) (Q := fun r h' => gx_rt none r ∧ ∃ A0 : gs_A, gs_R h' (gi_1 x h.1 h.2.1) A0 ∧ A0 5 0 0 = A 5 0 0 ∧ r = none) rfl hb.2 (fun _ => rfl) (fun _ _ => rfl) (fun _ _ => rfl) (fun _ => rfl) (fun _ => rfl) (fun _ => rfl) (fun _ => rfl) (gi_n x) 0 H A (by omega) R ?_
  · exact k9
  clear R F hA5 hA hlt
  generalize h = h0
  intro h A1 R f5
  revert R f5
  generalize A = B
  generalize A1 = A
  intro R f5
  refine gx_aload_n dX5_init_100 rfl ?_
  refine gx_get dX5_init_101 gf_X5_9 (gs_g5 R ) (v := .ref (A 8 0 0)) (rfl) ?_
  refine gx_bipush dX5_init_104 (v := 100) (by decide) ?_
  refine gx_invS dX5_init_106 wm_X5_53 gt_J7_fill_53178 ws_J7_fill_53178 (As := [.ref (A 8 0 0), .int 100]) (rest := []) rfl rfl (Nat.le_of_ble_eq_true rfl) (by decide) (cc_fill8 R 100) (fun r1 h q1 => ?_)
  obtain ⟨R, hs9, rfl⟩ := q1
  show gx_Ev _ _ _ _ _ [] _ _
  refine gx_return dX5_init_109 ?_
  exact ⟨rfl, A, R, congrFun (congrFun f5 0) 0, rfl⟩
