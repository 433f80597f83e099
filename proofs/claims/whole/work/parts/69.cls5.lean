/-! the class: Flights.put, Flights.drop -/
theorem gw_ad {σ : gs_T} (W : gw_W σ) {q a g o : Nat} {k f c : Int32} (hp : σ.1 6 g o = 1) : gw_W (sc_ad σ q a k f g o c) := by
  have e : ∀ t, t ≠ 10 → t ≠ 18 → t ≠ 8 → t ≠ 9 → (sc_ad σ q a k f g o c).1 t = σ.1 t := fun t h1 h2 h3 h4 => (gs_u_ne h4).trans ((gs_u_ne h3).trans ((gs_u_ne h2).trans (gs_u_ne h1)))
  have e8 : ∀ y, (sc_ad σ q a k f g o c).1 8 y 0 = if y = q then g else σ.1 8 y 0 := fun y => by simp [sc_ad, gs_i, gs_n, gs_u]
  have e9 : ∀ y, (sc_ad σ q a k f g o c).1 9 y 0 = if y = q then o else σ.1 9 y 0 := fun y => by simp [sc_ad, gs_i, gs_n, gs_u]
  have E : ∀ t, t = 0 ∨ t = 1 ∨ t = 2 ∨ t = 15 ∨ t = 11 ∨ t = 6 ∨ t = 7 ∨ t = 5 ∨ t = 3 ∨ t = 4 ∨ t = 12 ∨ t = 13 ∨ t = 14 → (sc_ad σ q a k f g o c).1 t = σ.1 t := fun t ht => e t (by omega) (by omega) (by omega) (by omega)
  obtain ⟨w1, w2, w3, w4, w5, w6, w7, w8, w9, w10, w11, w12, w13, w14⟩ := W
  refine ⟨by rw [E 0 (by omega), E 1 (by omega), E 2 (by omega)]; exact w1, by rw [E 0 (by omega), E 15 (by omega)]; exact w2, by rw [E 1 (by omega), E 11 (by omega)]; exact w3, ?_, ?_, by rw [E 6 (by omega), E 0 (by omega), E 1 (by omega)]; exact w6, by rw [E 6 (by omega), E 7 (by omega)]; exact w7, by rw [E 6 (by omega), E 5 (by omega)]; exact w8, by rw [E 0 (by omega), E 3 (by omega), E 5 (by omega)]; exact w9, by rw [E 3 (by omega)]; exact w10, by rw [E 3 (by omega), E 4 (by omega)]; exact w11, by rw [E 12 (by omega)]; exact w12, by rw [E 13 (by omega)]; exact w13, by rw [E 14 (by omega)]; exact w14⟩
  · intro i hi
    rw [E 2 (by omega)] at hi
    rw [sc_ad_10]
    split
    · rfl
    · exact w4 i hi
  · intro i hi
    rw [sc_ad_10] at hi
    rw [E 6 (by omega), e8, e9]
    by_cases hq : i = q
    · simp only [if_pos hq]; exact hp
    · simp only [if_neg hq] at hi ⊢; exact w5 i hi
theorem gw_n2f {σ : gs_T} (W : gw_W σ) {v : Nat} (hv : v ≤ 240) (hf : ∀ i, i < v → σ.1 10 i 0 = 1) : gw_W (gs_n σ 2 0 0 v) := by
  have E : ∀ t, t ≠ 2 → (gs_n σ 2 0 0 v).1 t = σ.1 t := fun t ht => gs_u_ne ht
  have e2 : (gs_n σ 2 0 0 v).1 2 0 0 = v := by simp [gs_n, gs_u]
  obtain ⟨w1, w2, w3, w4, w5, w6, w7, w8, w9, w10, w11, w12, w13, w14⟩ := W
  exact ⟨by rw [E 0 (by decide), E 1 (by decide), e2]; exact ⟨w1.1, w1.2.1, w1.2.2.1, hv⟩, by rw [E 0 (by decide), E 15 (by decide)]; exact w2, by rw [E 1 (by decide), E 11 (by decide)]; exact w3, by rw [e2, E 10 (by decide)]; exact hf, by rw [E 6 (by decide), E 8 (by decide), E 9 (by decide), E 10 (by decide)]; exact w5, by rw [E 6 (by decide), E 0 (by decide), E 1 (by decide)]; exact w6, by rw [E 6 (by decide), E 7 (by decide)]; exact w7, by rw [E 6 (by decide), E 5 (by decide)]; exact w8, by rw [E 0 (by decide), E 3 (by decide), E 5 (by decide)]; exact w9, by rw [E 3 (by decide)]; exact w10, by rw [E 3 (by decide), E 4 (by decide)]; exact w11, by rw [E 12 (by decide)]; exact w12, by rw [E 13 (by decide)]; exact w13, by rw [E 14 (by decide)]; exact w14⟩
theorem gw_n10 {σ : gs_T} (W : gw_W σ) {q : Nat} (hq : σ.1 2 0 0 ≤ q) : gw_W (gs_n σ 10 q 0 0) := by
  have E : ∀ t, t ≠ 10 → (gs_n σ 10 q 0 0).1 t = σ.1 t := fun t ht => gs_u_ne ht
  have e10 : ∀ y, (gs_n σ 10 q 0 0).1 10 y 0 = if y = q then 0 else σ.1 10 y 0 := fun y => by simp [gs_n, gs_u]
  obtain ⟨w1, w2, w3, w4, w5, w6, w7, w8, w9, w10, w11, w12, w13, w14⟩ := W
  refine ⟨by rw [E 0 (by decide), E 1 (by decide), E 2 (by decide)]; exact w1, by rw [E 0 (by decide), E 15 (by decide)]; exact w2, by rw [E 1 (by decide), E 11 (by decide)]; exact w3, ?_, ?_, by rw [E 6 (by decide), E 0 (by decide), E 1 (by decide)]; exact w6, by rw [E 6 (by decide), E 7 (by decide)]; exact w7, by rw [E 6 (by decide), E 5 (by decide)]; exact w8, by rw [E 0 (by decide), E 3 (by decide), E 5 (by decide)]; exact w9, by rw [E 3 (by decide)]; exact w10, by rw [E 3 (by decide), E 4 (by decide)]; exact w11, by rw [E 12 (by decide)]; exact w12, by rw [E 13 (by decide)]; exact w13, by rw [E 14 (by decide)]; exact w14⟩
  · intro i hi
    rw [E 2 (by decide)] at hi
    rw [e10, if_neg (by omega)]
    exact w4 i hi
  · intro i hi
    rw [e10] at hi
    rw [E 6 (by decide), E 8 (by decide), E 9 (by decide)]
    split at hi
    · cases hi
    · exact w5 i hi
theorem gw_oth {σ : gs_T} (W : gw_W σ) {f i j v : Nat} (hf : 16 ≤ f) : gw_W (gs_n σ f i j v) := by
  have E : ∀ t, t < 16 → (gs_n σ f i j v).1 t = σ.1 t := fun t ht => gs_u_ne (by omega)
  unfold gw_W
  rw [E 0 (by decide), E 1 (by decide), E 2 (by decide), E 3 (by decide), E 4 (by decide), E 5 (by decide), E 6 (by decide), E 7 (by decide), E 8 (by decide), E 9 (by decide), E 10 (by decide), E 11 (by decide), E 12 (by decide), E 13 (by decide), E 14 (by decide), E 15 (by decide)]
  exact W
def sc_pt (σ : gs_T) (a : Nat) (k f : Int32) (g o : Nat) (c : Int32) : gs_T := if σ.1 2 0 0 < 240 then gs_n (sc_ad σ (σ.1 2 0 0) a k f g o c) 2 0 0 (σ.1 2 0 0 + 1) else σ
theorem gw_pt {σ : gs_T} (W : gw_W σ) {a g o : Nat} {k f c : Int32} (hp : σ.1 6 g o = 1) : gw_W (sc_pt σ a k f g o c) := by
  unfold sc_pt
  split
  · rename_i hlt
    refine gw_n2f (gw_ad W hp) (by omega) (fun i hi => ?_)
    rw [sc_ad_10]
    split
    · rfl
    · exact gw_m W (by omega)
  · exact W
def sc_pm (σ : gs_T) (k f : Int32) (g o : Nat) (c : Int32) : gs_T := sc_pt (sc_nw σ 4) (σ.1 20 0 0) k f g o c
theorem gw_pm {σ : gs_T} (W : gw_W σ) {g o : Nat} {k f c : Int32} (hp : σ.1 6 g o = 1) : gw_W (sc_pm σ k f g o c) := gw_pt (gw_oth (gw_oth W (by decide)) (by decide)) hp
set_option maxHeartbeats 4000000 in
theorem cc_X0_put {S : gx_S} {h : gx_H} {σ : gs_T} {A : gs_A} (R : gs_R h σ A) (W : gw_W σ) {a g o : Nat} {k f c : Int32} (ha : a < h.1) (hc : h.2.2 a = some (gx_ob 2 [.int k, .int f, .ref (A 4 g o), .int c])) : gx_Cn S gm_X0_put 1 [.ref (A 0 0 0), .ref a] h (fun r h' => gs_R h' (sc_pt σ a k f g o c) A ∧ r = none) := by
  refine gx_Cn.of gt_X0_put (by simp [Value.category]) (Nat.le_of_ble_eq_true rfl) ?_
  show gx_Ev S gm_X0_put 1 0 [some (.ref (A 0 0 0)), some (.ref a)] [] h _
  refine gx_aload_n dX0_put_0 rfl ?_
  refine gx_get dX0_put_1 gf_X0_17 (gs_g0 R ) (v := .int (nI (σ.1 2 0 0))) (rfl) ?_
  refine gx_sipush dX0_put_4 (v := 240) (by decide) ?_
  refine gx_icmp_ge dX0_put_7 (tgt := 30) (by decide) (fun hc1 => ?_) (fun hc1 => ?_)
  · have hlt : ¬ σ.1 2 0 0 < 240 := fun z => nI_ge z (by decide) hc1
    refine gx_return dX0_put_30 ?_
    exact ⟨rfl, by rw [sc_pt, if_neg hlt]; exact R, rfl⟩
  · have hlt : σ.1 2 0 0 < 240 := Nat.lt_of_not_le (fun z => hc1 (nI_le z (by have := gw_fl W; omega)))
    refine gx_aload_n dX0_put_10 rfl ?_
    refine gx_get dX0_put_11 gf_X0_11 (gs_g0 R ) (v := .ref (A 15 0 0)) (rfl) ?_
    refine gx_aload_n dX0_put_14 rfl ?_
    refine gx_get dX0_put_15 gf_X0_17 (gs_g0 R ) (v := .int (nI (σ.1 2 0 0))) (rfl) ?_
    refine gx_aload_n dX0_put_18 rfl ?_
    refine gx_adM dX0_put_19 R ha hc hlt (fun h R => ?_)
    refine gx_aload_n dX0_put_20 rfl ?_
    refine gx_dup dX0_put_21 rfl ?_
    refine gx_get dX0_put_22 gf_X0_17 (gs_g0 R ) (v := .int (nI ((sc_ad σ (σ.1 2 0 0) a k f g o c).1 2 0 0))) (rfl) ?_
    refine gx_iconst dX0_put_25 (v := 1) (by decide) ?_
    refine gx_iadd dX0_put_26 ?_
    rw [show ((nI ((sc_ad σ (σ.1 2 0 0) a k f g o c).1 2 0 0)) + 1 : Int32) = nI ((sc_ad σ (σ.1 2 0 0) a k f g o c).1 2 0 0 + 1) from nI_1 _]
    refine gp_N2 (σ := (sc_ad σ (σ.1 2 0 0) a k f g o c))  dX0_put_27 gf_X0_17 R (rfl) (v := (sc_ad σ (σ.1 2 0 0) a k f g o c).1 2 0 0 + 1) (fun h R hs0 => ?_)
    refine gx_return dX0_put_30 ?_
    exact ⟨rfl, by rw [sc_pt, if_pos hlt]; exact R, rfl⟩
def sc_m1 (σ : gs_T) (e : Nat) : gs_T := sc_ad σ e (σ.1 18 (e + 1) 0) (σ.2.1 16 (e + 1) 0) (σ.2.1 17 (e + 1) 0) (σ.1 8 (e + 1) 0) (σ.1 9 (e + 1) 0) (σ.2.1 18 (e + 1) 0)
def sc_sh (σ : gs_T) (e m : Nat) : gs_T := match m with
  | 0 => σ
  | m + 1 => sc_sh (sc_m1 σ e) (e + 1) m
def sc_dr (σ : gs_T) (j : Nat) : gs_T := gs_n (gs_n (sc_sh σ j (σ.1 2 0 0 - 1 - j)) 2 0 0 (σ.1 2 0 0 - 1)) 10 (σ.1 2 0 0 - 1) 0 0
theorem gw_sh {σ : gs_T} (W : gw_W σ) {e m : Nat} (hm : e + 1 + m = σ.1 2 0 0) : gw_W (sc_sh σ e m) ∧ (sc_sh σ e m).1 2 0 0 = σ.1 2 0 0 := by
  induction m generalizing σ e with
  | zero => exact ⟨W, rfl⟩
  | succ m ih => exact ih (σ := sc_m1 σ e) (gw_ad W (gw_mp W (gw_m W (by omega)))) (show e + 1 + 1 + m = σ.1 2 0 0 by omega)
theorem gw_dr {σ : gs_T} (W : gw_W σ) {j : Nat} (hj : j < σ.1 2 0 0) : gw_W (sc_dr σ j) := by
  have h9 := gw_sh W (e := j) (m := σ.1 2 0 0 - 1 - j) (by omega)
  have hf := gw_fl W
  exact gw_n10 (gw_n2f h9.1 (by omega) (fun i hi => gw_m h9.1 (by omega))) (Nat.le_refl _)
set_option maxHeartbeats 4000000 in
theorem cl_dr {S : gx_S} {A : gs_A} (w1 : Option Value) (g1 : gx_ok [none, w1] 2 = true) {Q : Option Value → gx_H → Prop} : ∀ (m e : Nat) (σ : gs_T) (h : gx_H), e + 1 + m = σ.1 2 0 0 → gw_W σ → gs_R h σ A → (∀ h, gs_R h (sc_sh σ e m) A → gx_Ev S gm_X0_drop 1 32 [some (.ref (A 0 0 0)), w1, some (.int (nI ((e + m) + 1)))] [] h Q) → gx_Ev S gm_X0_drop 1 4 [some (.ref (A 0 0 0)), w1, some (.int (nI (e + 1)))] [] h Q := by
  intro m
  induction m with
  | zero =>
    intro e σ h he W R K
    have hf := gw_fl W
    refine gx_iload_n dX0_drop_4 rfl ?_
    refine gx_aload_n dX0_drop_5 rfl ?_
    refine gx_get dX0_drop_6 gf_X0_17 (gs_g0 R ) (v := .int (nI (σ.1 2 0 0))) (rfl) ?_
    refine gx_icmp_ge dX0_drop_9 (tgt := 32) (by decide) (fun hc1 => ?_) (fun hc1 => absurd hc1 (fun z => z (by rw [← he]; exact nI_le (Nat.le_refl _) (by omega))))
    exact K _ R
  | succ m ih =>
    intro e σ h he W R K
    have hf := gw_fl W
    have hl : σ.1 10 (e + 1) 0 = 1 := gw_m W (by omega)
    refine gx_iload_n dX0_drop_4 rfl ?_
    refine gx_aload_n dX0_drop_5 rfl ?_
    refine gx_get dX0_drop_6 gf_X0_17 (gs_g0 R ) (v := .int (nI (σ.1 2 0 0))) (rfl) ?_
    refine gx_icmp_ge dX0_drop_9 (tgt := 32) (by decide) (fun hc1 => absurd hc1 (nI_ge (by omega) (by omega))) (fun hc1 => ?_)
    refine gx_aload_n dX0_drop_12 rfl ?_
    refine gx_get dX0_drop_13 gf_X0_11 (gs_g0 R ) (v := .ref (A 15 0 0)) (rfl) ?_
    refine gx_iload_n dX0_drop_16 rfl ?_
    refine gx_iconst dX0_drop_17 (v := 1) (by decide) ?_
    refine gx_isub dX0_drop_18 ?_
    rw [show ((nI (e + 1)) - 1 : Int32) = nI e from nI_pred _]
    refine gx_aload_n dX0_drop_19 rfl ?_
    refine gx_get dX0_drop_20 gf_X0_11 (gs_g0 R ) (v := .ref (A 15 0 0)) (rfl) ?_
    refine gx_iload_n dX0_drop_23 rfl ?_
    refine gr_15 dX0_drop_24 R (q := e + 1) rfl (by omega) (by decide) hl ?_
    refine gx_adM dX0_drop_25 R (R.1 2 (e + 1) 0 ⟨hl, rfl⟩).1 (gs_g2 R hl) (show e < 240 by omega) (fun h R => ?_)
    have R : gs_R _ (sc_m1 σ e) A := R
    refine gx_iinc dX0_drop_26 rfl (v := nI (e + 1 + 1)) (nI_1 _) (by decide) g1 (L' := [some (.ref (A 0 0 0)), w1, some (.int (nI (e + 1 + 1)))]) rfl ?_
    refine gx_goto dX0_drop_29 (tgt := 4) (by decide) ?_
    refine ih (e + 1) (sc_m1 σ e) _ (show e + 1 + 1 + m = σ.1 2 0 0 by omega) (gw_ad W (gw_mp W hl)) R (fun h8 R8 => ?_)
    have k8 := K h8 R8
    rw [show e + (m + 1) = e + 1 + m by omega] at k8
    exact k8
set_option maxHeartbeats 4000000 in
theorem cc_X0_drop {S : gx_S} {h : gx_H} {σ : gs_T} {A : gs_A} (R : gs_R h σ A) (W : gw_W σ) {j : Nat} (hj : j < σ.1 2 0 0) : gx_Cn S gm_X0_drop 1 [.ref (A 0 0 0), .int (nI j)] h (fun r h' => gs_R h' (sc_dr σ j) A ∧ r = none) := by
  refine gx_Cn.of gt_X0_drop (by simp [Value.category]) (Nat.le_of_ble_eq_true rfl) ?_
  show gx_Ev S gm_X0_drop 1 0 [some (.ref (A 0 0 0)), some (.int (nI j)), none] [] h _
  refine gx_iload_n dX0_drop_0 rfl ?_
  refine gx_iconst dX0_drop_1 (v := 1) (by decide) ?_
  refine gx_iadd dX0_drop_2 ?_
  rw [show ((nI j) + 1 : Int32) = nI (j + 1) from nI_1 _]
  refine gx_istore_n dX0_drop_3 (by decide) rfl (L' := [some (.ref (A 0 0 0)), some (.int (nI j)), some (.int (nI (j + 1)))]) rfl ?_
  have hf := gw_fl W
  have h9 := gw_sh W (e := j) (m := σ.1 2 0 0 - 1 - j) (by omega)
  refine cl_dr _ rfl (σ.1 2 0 0 - 1 - j) j σ _ (by omega) W R (fun h R => ?_)
  refine gx_aload_n dX0_drop_32 rfl ?_
  refine gx_dup dX0_drop_33 rfl ?_
  refine gx_get dX0_drop_34 gf_X0_17 (gs_g0 R ) (v := .int (nI ((sc_sh σ j (σ.1 2 0 0 - 1 - j)).1 2 0 0))) (rfl) ?_
  refine gx_iconst dX0_drop_37 (v := 1) (by decide) ?_
  refine gx_isub dX0_drop_38 ?_
  refine gp_N2 (σ := (sc_sh σ j (σ.1 2 0 0 - 1 - j)))  dX0_drop_39 gf_X0_17 R (by rw [h9.2]; exact (show nI _ - nI 1 = nI _ from pk_sub (a := σ.1 2 0 0) (b := 1) (by omega))) (v := σ.1 2 0 0 - 1) (fun h R hs0 => ?_)
  refine gx_aload_n dX0_drop_42 rfl ?_
  refine gx_get dX0_drop_43 gf_X0_11 (gs_g0 R ) (v := .ref (A 15 0 0)) (rfl) ?_
  refine gx_aload_n dX0_drop_46 rfl ?_
  refine gx_get dX0_drop_47 gf_X0_17 (gs_g0 R ) (v := .int (nI (σ.1 2 0 0 - 1))) (rfl) ?_
  refine gx_null dX0_drop_50 ?_
  refine gx_drM dX0_drop_51 R (show σ.1 2 0 0 - 1 < 240 by omega) (fun h R => ?_)
  refine gx_return dX0_drop_52 ?_
  exact ⟨rfl, R, rfl⟩
