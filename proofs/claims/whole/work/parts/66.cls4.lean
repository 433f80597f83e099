/-! the class: takeAll, Flights.put, Flights.drop -/
def sc_tk1 (σ : gs_T) (g k b : Nat) : gs_T := gs_n (gs_n (gs_i σ 11 g b 1) 5 g k (b + 1)) 3 g 0 (k + 1)
def sc_ta (g m k : Nat) (σ : gs_T) : gs_T := match m with
  | 0 => σ
  | m + 1 => if sc_ew σ g 40 = 0 then σ else if σ.2.1 10 g (sc_ew σ g 40 - 1) = -1 then σ else sc_ta g m (k + 1) (sc_tk1 σ g k (sc_ew σ g 40 - 1))
theorem gw_tk1 {σ : gs_T} (W : gw_W σ) {g k b : Nat} (hp : σ.1 6 g b = 1) (hk : σ.1 3 g 0 = k) (h40 : k < 40) : gw_W (sc_tk1 σ g k b) := by
  have e : ∀ f, f ≠ 3 → f ≠ 5 → (sc_tk1 σ g k b).1 f = σ.1 f := fun f h3 h5 => (gs_u_ne h3).trans (gs_u_ne h5)
  have e5 : ∀ x y, (sc_tk1 σ g k b).1 5 x y = if x = g ∧ y = k then b + 1 else σ.1 5 x y := by
    intro x y
    show gs_u (gs_u σ.1 5 g k (b + 1)) 3 g 0 (k + 1) 5 x y = _
    rw [gs_u_ne (by decide)]
    exact gs_u_at
  have e3 : ∀ x, (sc_tk1 σ g k b).1 3 x 0 = if x = g then k + 1 else σ.1 3 x 0 := by
    intro x
    show gs_u (gs_u σ.1 5 g k (b + 1)) 3 g 0 (k + 1) 3 x 0 = _
    rw [gs_u_at, gs_u_ne (by decide)]
    simp
  have hlt := gw_p W hp
  obtain ⟨w1, w2, w3, w4, w5, w6, w7, w8, w9, w10, w11, w12, w13, w14⟩ := W
  refine ⟨by rw [e 0 (by decide) (by decide), e 1 (by decide) (by decide), e 2 (by decide) (by decide)]; exact w1, by rw [e 0 (by decide) (by decide), e 15 (by decide) (by decide)]; exact w2, by rw [e 1 (by decide) (by decide), e 11 (by decide) (by decide)]; exact w3, by rw [e 2 (by decide) (by decide), e 10 (by decide) (by decide)]; exact w4, by rw [e 6 (by decide) (by decide), e 8 (by decide) (by decide), e 9 (by decide) (by decide), e 10 (by decide) (by decide)]; exact w5, by rw [e 6 (by decide) (by decide), e 0 (by decide) (by decide), e 1 (by decide) (by decide)]; exact w6, by rw [e 6 (by decide) (by decide), e 7 (by decide) (by decide)]; exact w7, ?_, ?_, ?_, ?_, by rw [e 12 (by decide) (by decide)]; exact w12, by rw [e 13 (by decide) (by decide)]; exact w13, by rw [e 14 (by decide) (by decide)]; exact w14⟩
  · intro g' k' o' h9
    rw [e5] at h9
    rw [e 6 (by decide) (by decide)]
    split at h9
    · rename_i hc
      rw [hc.1, show o' = b by omega]
      exact hp
    · exact w8 g' k' o' h9
  · intro g' k' hg' hk'
    rw [e 0 (by decide) (by decide)] at hg'
    rw [e3] at hk'
    rw [e5]
    split
    · omega
    · rename_i hc
      split at hk'
      · rename_i hgg
        have : ¬ k' = k := fun z => hc ⟨hgg, z⟩
        exact w9 g' k' hg' (by rw [hgg, hk]; omega)
      · exact w9 g' k' hg' hk'
  · intro g'
    rw [e3]
    split
    · omega
    · exact w10 g'
  · intro g'
    rw [e3, e 4 (by decide) (by decide)]
    have := w11 g'
    split
    · rename_i hgg
      rw [hgg] at this ⊢
      omega
    · exact this
set_option maxHeartbeats 4000000 in
theorem cl_ta {S : gx_S} {h0 : gx_H} {A : gs_A} {g : Nat} : ∀ (m k : Nat) (σ : gs_T) (w2 : Option Value) (h : gx_H), k + m = 40 → gw_W σ → σ.1 15 g 0 = 1 → σ.1 3 g 0 = k → gs_R h σ A → gs_sm h0 h → gx_Ev S gm_X1_takeAll 4 5 [some (.ref (A 1 g 0)), some (.int (nI k)), w2] [] h (fun r h' => gx_rt none r ∧ gs_R h' (sc_ta g m k σ) A ∧ gs_sm h0 h' ∧ r = none) := by
  intro m
  induction m with
  | zero =>
    intro k σ w2 h hk W hg hk3 R hs
    have hq0 : k = 40 := by omega
    refine gx_iload_n dX1_takeAll_5 rfl ?_
    refine gx_bipush dX1_takeAll_6 (v := 40) (by decide) ?_
    refine gx_icmp_ge dX1_takeAll_8 (tgt := 54) (by decide) (fun hc1 => ?_) (fun hc1 => absurd hc1 (fun z => z (by rw [hq0]; decide)))
    refine gx_return dX1_takeAll_54 ?_
    exact ⟨rfl, R, hs, rfl⟩
  | succ m ih =>
    intro k σ w2 h hk W hg hk3 R hs
    rcases gs_zs (sc_ew σ g 40) with he | ⟨e, he⟩
    · refine gx_iload_n dX1_takeAll_5 rfl ?_
      refine gx_bipush dX1_takeAll_6 (v := 40) (by decide) ?_
      refine gx_icmp_ge dX1_takeAll_8 (tgt := 54) (by decide) (fun hc1 => absurd hc1 (nI_ge (a := k) (b := 40) (by omega) (by decide))) (fun hc1 => ?_)
      refine gx_aload_n dX1_takeAll_11 rfl ?_
      refine gx_invV dX1_takeAll_12 wm_X1_66 gt_X1_earliestWaiting wy_X1_earliestWaiting wl_X1_earliestWaiting (ci := 1) rfl rfl (gs_g1 R hg) (As := []) (rest := []) rfl rfl (Nat.le_of_ble_eq_true rfl) (by decide) (cc_X1_earliestWaiting R W hg) (fun r1 h q1 => ?_)
      rw [he] at q1
      obtain ⟨rfl, rfl⟩ := q1
      show gx_Ev _ _ _ _ _ [.null] _ _
      refine gx_astore_nN dX1_takeAll_15 (by decide) rfl (L' := [some (.ref (A 1 g 0)), some (.int (nI k)), some (.null)]) rfl ?_
      refine gx_aload_nN dX1_takeAll_16 rfl ?_
      refine gx_ifnullN dX1_takeAll_17 (tgt := 28) (by decide) ?_
      refine gx_return dX1_takeAll_28 ?_
      exact ⟨rfl, by rw [sc_ta, if_pos he]; exact R, hs, rfl⟩
    · obtain ⟨hpe, -, -⟩ := sc_ew_ex σ g 40 e he
      have hne0 : ¬ sc_ew σ g 40 = 0 := by rw [he]; omega
      refine gx_iload_n dX1_takeAll_5 rfl ?_
      refine gx_bipush dX1_takeAll_6 (v := 40) (by decide) ?_
      refine gx_icmp_ge dX1_takeAll_8 (tgt := 54) (by decide) (fun hc1 => absurd hc1 (nI_ge (a := k) (b := 40) (by omega) (by decide))) (fun hc1 => ?_)
      refine gx_aload_n dX1_takeAll_11 rfl ?_
      refine gx_invV dX1_takeAll_12 wm_X1_66 gt_X1_earliestWaiting wy_X1_earliestWaiting wl_X1_earliestWaiting (ci := 1) rfl rfl (gs_g1 R hg) (As := []) (rest := []) rfl rfl (Nat.le_of_ble_eq_true rfl) (by decide) (cc_X1_earliestWaiting R W hg) (fun r1 h q1 => ?_)
      rw [he] at q1
      obtain ⟨rfl, rfl⟩ := q1
      show gx_Ev _ _ _ _ _ [.ref (A 4 g e)] _ _
      refine gx_astore_n dX1_takeAll_15 (by decide) rfl (L' := [some (.ref (A 1 g 0)), some (.int (nI k)), some (.ref (A 4 g e))]) rfl ?_
      refine gx_aload_n dX1_takeAll_16 rfl ?_
      refine gx_ifnull dX1_takeAll_17 ?_
      refine gx_aload_n dX1_takeAll_20 rfl ?_
      refine gx_get dX1_takeAll_21 gf_X1_53 (gs_g4 R hpe) (v := .int (σ.2.1 10 g e)) (rfl) ?_
      refine gx_iconst dX1_takeAll_24 (v := (-1)) (by decide) ?_
      refine gx_icmp_ne dX1_takeAll_25 (tgt := 29) (by decide) (fun hc1 => ?_) (fun hc1 => ?_)
      · refine gx_aload_n dX1_takeAll_29 rfl ?_
        refine gx_iconst dX1_takeAll_30 (v := 1) (by decide) ?_
        refine gp_I11 (σ := σ) hpe dX1_takeAll_31 gf_X1_70 R (by first | exact Or.inl rfl | exact Or.inr rfl) (v := 1) (fun h R hs0 => ?_)
        refine gx_aload_n dX1_takeAll_34 rfl ?_
        refine gx_get dX1_takeAll_35 gf_X1_21 (gs_g1 R hg) (v := .ref (A 14 g 0)) (rfl) ?_
        refine gx_iload_n dX1_takeAll_38 rfl ?_
        refine gx_aload_n dX1_takeAll_39 rfl ?_
        refine ga_N5 (σ := (gs_i σ 11 g e 1)) hg hpe dX1_takeAll_40 R (q := k) (o := e) (rfl) (by first | assumption | omega) (fun h R hs1 => ?_)
        refine gx_aload_n dX1_takeAll_41 rfl ?_
        refine gx_iload_n dX1_takeAll_42 rfl ?_
        refine gx_iconst dX1_takeAll_43 (v := 1) (by decide) ?_
        refine gx_iadd dX1_takeAll_44 ?_
        rw [show ((nI k) + 1 : Int32) = nI (k + 1) from nI_1 _]
        refine gp_N3 (σ := (gs_n (gs_i σ 11 g e 1) 5 g k (e + 1))) hg dX1_takeAll_45 gf_X1_63 R (rfl) (v := k + 1) (fun h R hs2 => ?_)
        refine gx_iinc dX1_takeAll_48 rfl (v := nI (k + 1)) (nI_1 _) (by decide) rfl (L' := [some (.ref (A 1 g 0)), some (.int (nI (k + 1))), some (.ref (A 4 g e))]) rfl ?_
        refine gx_goto dX1_takeAll_51 (tgt := 5) (by decide) ?_
        have hnf : ¬ σ.2.1 10 g (sc_ew σ g 40 - 1) = -1 := by rw [he]; exact hc1
        rw [sc_ta, if_neg hne0, if_neg hnf, he]
        exact ih (k + 1) (sc_tk1 σ g k e) _ _ (by omega) (gw_tk1 W hpe hk3 (by omega)) hg (by simp [sc_tk1, gs_n, gs_u]) R (((hs.trans hs0).trans hs1).trans hs2)
      · refine gx_return dX1_takeAll_28 ?_
        exact ⟨rfl, by rw [sc_ta, if_neg hne0, if_pos (by rw [he]; exact hc1)]; exact R, hs, rfl⟩
set_option maxHeartbeats 4000000 in
theorem cc_X1_takeAll {S : gx_S} {h : gx_H} {σ : gs_T} {A : gs_A} (R : gs_R h σ A) (W : gw_W σ) {g : Nat} (hg : σ.1 15 g 0 = 1) : gx_Cn S gm_X1_takeAll 4 [.ref (A 1 g 0)] h (fun r h' => gs_R h' (sc_ta g (40 - σ.1 3 g 0) (σ.1 3 g 0) σ) A ∧ gs_sm h h' ∧ r = none) := by
  refine gx_Cn.of gt_X1_takeAll (by simp [Value.category]) (Nat.le_of_ble_eq_true rfl) ?_
  show gx_Ev S gm_X1_takeAll 4 0 [some (.ref (A 1 g 0)), none, none] [] h _
  refine gx_aload_n dX1_takeAll_0 rfl ?_
  refine gx_get dX1_takeAll_1 gf_X1_63 (gs_g1 R hg) (v := .int (nI (σ.1 3 g 0))) (rfl) ?_
  refine gx_istore_n dX1_takeAll_4 (by decide) rfl (L' := [some (.ref (A 1 g 0)), some (.int (nI (σ.1 3 g 0))), none]) rfl ?_
  exact cl_ta (40 - σ.1 3 g 0) (σ.1 3 g 0) σ _ _ (by have := gw_tc W g; omega) W hg rfl R gs_sm.rfl
