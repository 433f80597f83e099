/-! the class: deliver, bring, twice -/
theorem gw_rv {σ : gs_T} (W : gw_W σ) (hp : σ.1 6 (σ.1 16 0 0) (σ.1 17 0 0) = 1) : gw_W (sc_rv σ) := by
  unfold sc_rv
  split
  · exact W
  · split
    · exact W
    · split
      · split
        · exact W
        · rename_i h0
          obtain ⟨x, hx⟩ : ∃ x, σ.1 7 (σ.1 16 0 0) (σ.1 17 0 0) = x + 1 := ⟨σ.1 7 (σ.1 16 0 0) (σ.1 17 0 0) - 1, by omega⟩
          rw [hx]
          have W2 : gw_W (sc_start σ (σ.1 16 0 0) (σ.1 17 0 0)) := W
          exact gw_pm W2 (gw_ot W hp hx)
      · exact W
theorem sc_rv_f {σ : gs_T} {t : Nat} (ht : sc_pf t = false) : (sc_rv σ).1 t = σ.1 t := by
  unfold sc_rv
  split
  · rfl
  · split
    · rfl
    · split
      · split
        · rfl
        · exact sc_pm_f ht
      · rfl
theorem sc_sh_f {σ : gs_T} {e m t : Nat} (h1 : t ≠ 10) (h2 : t ≠ 18) (h3 : t ≠ 8) (h4 : t ≠ 9) : (sc_sh σ e m).1 t = σ.1 t := by
  induction m generalizing σ e with
  | zero => rfl
  | succ m ih =>
    rw [sc_sh, ih]
    exact (gs_u_ne h4).trans ((gs_u_ne h3).trans ((gs_u_ne h2).trans (gs_u_ne h1)))
theorem sc_dr_f {σ : gs_T} {j t : Nat} (ht : sc_pf t = false) : (sc_dr σ j).1 t = σ.1 t := by
  have h : t ≠ 2 ∧ t ≠ 8 ∧ t ≠ 9 ∧ t ≠ 10 ∧ t ≠ 18 ∧ t ≠ 20 ∧ t ≠ 21 := by simpa [sc_pf, and_assoc] using ht
  exact (gs_u_ne h.2.2.2.1).trans ((gs_u_ne h.1).trans (sc_sh_f h.2.2.2.1 h.2.2.2.2.1 h.2.1 h.2.2.1))
theorem sc_ta_f {g m k : Nat} {σ : gs_T} {t : Nat} (h3 : t ≠ 3) (h5 : t ≠ 5) : (sc_ta g m k σ).1 t = σ.1 t := by
  induction m generalizing k σ with
  | zero => rfl
  | succ m ih =>
    rw [sc_ta]
    split
    · rfl
    · split
      · rfl
      · rw [ih]
        exact (gs_u_ne h3).trans (gs_u_ne h5)
theorem gw_ta {g m k : Nat} {σ : gs_T} (W : gw_W σ) (hk : σ.1 3 g 0 = k) (hm : k + m ≤ 40) : gw_W (sc_ta g m k σ) := by
  induction m generalizing k σ with
  | zero => exact W
  | succ m ih =>
    rw [sc_ta]
    split
    · exact W
    · split
      · exact W
      · rename_i h0 _
        obtain ⟨e, he⟩ : ∃ e, sc_ew σ g 40 = e + 1 := ⟨sc_ew σ g 40 - 1, by omega⟩
        have hp := (sc_ew_ex σ g 40 e he).1
        rw [he]
        exact ih (gw_tk1 W hp hk (by omega)) (by simp [sc_tk1, gs_n, gs_u]) (by omega)
theorem gw_wa {g m k : Nat} {σ : gs_T} (W : gw_W σ) (hg : g < σ.1 0 0 0) (hm : k + m = σ.1 3 g 0) : gw_W (sc_wa g m k σ) := by
  induction m generalizing k σ with
  | zero => exact W
  | succ m ih =>
    obtain ⟨e, he⟩ := gw_tn W hg (show k < σ.1 3 g 0 by omega)
    have hp := gw_tp W he
    have heo : σ.1 5 g k - 1 = e := by omega
    rw [sc_wa, heo]
    split
    · exact gw_pv W hp
    · have e1 := sc_wo_1 (sc_pv σ g e) g e
      have W2 := gw_of e1 (gw_pv W hp)
      refine ih (gw_n4f W2 (by rw [e1, sc_pv_f (by decide)]; omega)) ?_ ?_
      · show g < (sc_wo (sc_pv σ g e) g e).1 0 0 0
        rw [e1, sc_pv_f (by decide)]; exact hg
      · show k + 1 + m = (sc_wo (sc_pv σ g e) g e).1 3 g 0
        rw [e1, sc_pv_f (by decide)]; omega
def sc_d1 (σ : gs_T) (j : Nat) (b : Int32) : gs_T := if b = 0 then sc_dr σ j else σ
def sc_d2 (σ : gs_T) (j : Nat) (b : Int32) : gs_T := gs_i (sc_d1 σ j b) 5 0 0 ((sc_d1 σ j b).2.1 5 0 0 + 1)
def sc_d4 (σ : gs_T) (j : Nat) (b : Int32) : gs_T := sc_mf (sc_rv (sc_d2 σ j b)) (σ.1 16 0 0) 40
def sc_d5 (σ : gs_T) (j : Nat) (b : Int32) : gs_T := sc_ta (σ.1 16 0 0) (40 - (sc_d4 σ j b).1 3 (σ.1 16 0 0) 0) ((sc_d4 σ j b).1 3 (σ.1 16 0 0) 0) (sc_d4 σ j b)
def sc_d6 (σ : gs_T) (j : Nat) (b : Int32) : gs_T := sc_wa (σ.1 16 0 0) ((sc_d5 σ j b).1 3 (σ.1 16 0 0) 0 - (sc_d5 σ j b).1 4 (σ.1 16 0 0) 0) ((sc_d5 σ j b).1 4 (σ.1 16 0 0) 0) (sc_d5 σ j b)
set_option maxHeartbeats 4000000 in
theorem cl_dl2 {S : gx_S} {h : gx_H} {σ : gs_T} {A : gs_A} {j : Nat} {b : Int32} (R : gs_R h (sc_d1 σ j b) A) (W : gw_W σ) (hh : σ.1 32 0 0 = 1) (hp : σ.1 6 (σ.1 16 0 0) (σ.1 17 0 0) = 1) (hj : j < σ.1 2 0 0) : gx_Ev S gm_X5_deliver 6 59 [some (.ref (A 5 0 0)), some (.int (nI j)), some (.int b), some (.ref (σ.1 19 0 0)), some (.ref (A 1 (σ.1 16 0 0) 0))] [] h (fun r h' => gx_rt (some .int) r ∧ gs_R h' (sc_d6 σ j b) A ∧ r = some (.int (nI ((sc_d6 σ j b).1 2 0 0)))) := by
  have hgo := gw_p W hp
  have hd1 : ∀ t, sc_pf t = false → (sc_d1 σ j b).1 t = σ.1 t := fun t ht => by unfold sc_d1; split <;> first | rfl | exact sc_dr_f ht
  have W1 : gw_W (sc_d1 σ j b) := by unfold sc_d1; split <;> first | exact W | exact gw_dr W hj
  have e16 : (sc_d2 σ j b).1 16 0 0 = σ.1 16 0 0 := by rw [show (sc_d2 σ j b).1 = (sc_d1 σ j b).1 from rfl, hd1 16 (by decide)]
  have e17 : (sc_d2 σ j b).1 17 0 0 = σ.1 17 0 0 := by rw [show (sc_d2 σ j b).1 = (sc_d1 σ j b).1 from rfl, hd1 17 (by decide)]
  have e19 : (sc_d2 σ j b).1 19 0 0 = σ.1 19 0 0 := by rw [show (sc_d2 σ j b).1 = (sc_d1 σ j b).1 from rfl, hd1 19 (by decide)]
  have W2 : gw_W (sc_d2 σ j b) := W1
  have hh2 : (sc_d2 σ j b).1 32 0 0 = 1 := by rw [show (sc_d2 σ j b).1 = (sc_d1 σ j b).1 from rfl, hd1 32 (by decide)]; exact hh
  have hp2 : (sc_d2 σ j b).1 6 ((sc_d2 σ j b).1 16 0 0) ((sc_d2 σ j b).1 17 0 0) = 1 := by rw [e16, e17, show (sc_d2 σ j b).1 = (sc_d1 σ j b).1 from rfl, hd1 6 (by decide)]; exact hp
  have W3 := gw_rv W2 hp2
  have hg3 : (sc_rv (sc_d2 σ j b)).1 15 (σ.1 16 0 0) 0 = 1 := by rw [sc_rv_f (by decide), show (sc_d2 σ j b).1 = (sc_d1 σ j b).1 from rfl, hd1 15 (by decide)]; exact gw_g W hgo.1
  have f4 := sc_mf_1 (sc_rv (sc_d2 σ j b)) (σ.1 16 0 0) 40
  have W4 : gw_W (sc_d4 σ j b) := gw_of f4 W3
  have hg4 : (sc_d4 σ j b).1 15 (σ.1 16 0 0) 0 = 1 := by rw [show (sc_d4 σ j b).1 = (sc_rv (sc_d2 σ j b)).1 from f4]; exact hg3
  have W5 : gw_W (sc_d5 σ j b) := gw_ta W4 rfl (by have := gw_tc W4 (σ.1 16 0 0); omega)
  have n5 : (sc_d5 σ j b).1 0 0 0 = σ.1 0 0 0 := by rw [sc_d5, sc_ta_f (by decide) (by decide), show (sc_d4 σ j b).1 = (sc_rv (sc_d2 σ j b)).1 from f4, sc_rv_f (by decide), show (sc_d2 σ j b).1 = (sc_d1 σ j b).1 from rfl, hd1 0 (by decide)]
  have hg5 : σ.1 16 0 0 < (sc_d5 σ j b).1 0 0 0 := by rw [n5]; exact hgo.1
  have hg5l := gw_g W5 hg5
  refine gx_aload_n dX5_deliver_59 rfl ?_
  refine gx_dup dX5_deliver_60 rfl ?_
  refine gx_get dX5_deliver_61 gf_X5_184 (gs_g5 R ) (v := .int ((sc_d1 σ j b).2.1 5 0 0)) (rfl) ?_
  refine gx_iconst dX5_deliver_64 (v := 1) (by decide) ?_
  refine gx_iadd dX5_deliver_65 ?_
  refine gp_I5 (σ := (sc_d1 σ j b))  dX5_deliver_66 gf_X5_184 R (v := ((sc_d1 σ j b).2.1 5 0 0) + 1) (fun h R hs0 => ?_)
  refine gx_aload_n dX5_deliver_69 rfl ?_
  refine gx_aload dX5_deliver_70 rfl ?_
  refine gx_aload_n dX5_deliver_72 rfl ?_
  have R : gs_R h (sc_d2 σ j b) A := R
  have k9 := cc_X5_receive (S := S) R W2 hh2 hp2
  rw [e16, e19] at k9
  refine gx_invV dX5_deliver_73 wm_X5_226 gt_X5_receive wy_X5_receive wl_X5_receive (ci := 5) rfl rfl (gs_g5 R ) (As := [.ref (A 1 (σ.1 16 0 0) 0), .ref (σ.1 19 0 0)]) (rest := []) rfl rfl (Nat.le_of_ble_eq_true rfl) (by decide) (k9) (fun r1 h q1 => ?_)
  obtain ⟨R, rfl⟩ := q1
  show gx_Ev _ _ _ _ _ [] _ _
  have hgx := hg3
  refine gx_aload dX5_deliver_76 rfl ?_
  refine gx_invV dX5_deliver_78 wm_X5_230 gt_X1_makeFinal wy_X1_makeFinal wl_X1_makeFinal (ci := 1) rfl rfl (gs_g1 R hgx) (As := []) (rest := []) rfl rfl (Nat.le_of_ble_eq_true rfl) (by decide) (cc_X1_makeFinal R hg3) (fun r1 h q1 => ?_)
  obtain ⟨R, hs9, rfl⟩ := q1
  show gx_Ev _ _ _ _ _ [] _ _
  have R : gs_R h (sc_d4 σ j b) A := R
  have hgx := hg4
  refine gx_aload dX5_deliver_81 rfl ?_
  refine gx_invV dX5_deliver_83 wm_X5_233 gt_X1_takeAll wy_X1_takeAll wl_X1_takeAll (ci := 1) rfl rfl (gs_g1 R hgx) (As := []) (rest := []) rfl rfl (Nat.le_of_ble_eq_true rfl) (by decide) (cc_X1_takeAll R W4 hg4) (fun r1 h q1 => ?_)
  obtain ⟨R, hs8, rfl⟩ := q1
  show gx_Ev _ _ _ _ _ [] _ _
  have R : gs_R h (sc_d5 σ j b) A := R
  have hgx := hg5l
  refine gx_aload_n dX5_deliver_86 rfl ?_
  refine gx_aload dX5_deliver_87 rfl ?_
  refine gx_invV dX5_deliver_89 wm_X5_236 gt_X5_workOutAll wy_X5_workOutAll wl_X5_workOutAll (ci := 5) rfl rfl (gs_g5 R ) (As := [.ref (A 1 (σ.1 16 0 0) 0)]) (rest := []) rfl rfl (Nat.le_of_ble_eq_true rfl) (by decide) (cc_X5_workOutAll R W5 hg5) (fun r1 h q1 => ?_)
  obtain ⟨R, rfl⟩ := q1
  show gx_Ev _ _ _ _ _ [] _ _
  have R : gs_R h (sc_d6 σ j b) A := R
  refine gx_aload_n dX5_deliver_92 rfl ?_
  refine gx_get dX5_deliver_93 gf_X5_25 (gs_g5 R ) (v := .ref (A 0 0 0)) (rfl) ?_
  refine gx_get dX5_deliver_96 gf_X5_131 (gs_g0 R ) (v := .int (nI ((sc_d6 σ j b).1 2 0 0))) (rfl) ?_
  refine gx_ireturn dX5_deliver_99 ?_
  exact ⟨⟨_, rfl, rfl⟩, R, rfl⟩
set_option maxHeartbeats 4000000 in
theorem cl_dl {S : gx_S} {h : gx_H} {σ : gs_T} {A : gs_A} (R : gs_R h σ A) (W : gw_W σ) {j : Nat} (b : Int32) (hh : σ.1 32 0 0 = 1) (hp : σ.1 6 (σ.1 16 0 0) (σ.1 17 0 0) = 1) (hj : j < σ.1 2 0 0) : gx_Ev S gm_X5_deliver 6 47 [some (.ref (A 5 0 0)), some (.int (nI j)), some (.int b), some (.ref (σ.1 19 0 0)), some (.ref (A 1 (σ.1 16 0 0) 0))] [] h (fun r h' => gx_rt (some .int) r ∧ gs_R h' (sc_d6 σ j b) A ∧ r = some (.int (nI ((sc_d6 σ j b).1 2 0 0)))) := by
  have hgo := gw_p W hp
  have hg := gw_g W hgo.1
  refine gx_iload_n dX5_deliver_47 rfl ?_
  refine gx_if_ne dX5_deliver_48 (tgt := 59) (by decide) (fun k1 => ?_) (fun k1 => ?_)
  · have ed : sc_d1 σ j b = σ := by rw [sc_d1, if_neg k1]
    have R : gs_R h (sc_d1 σ j b) A := by rw [ed]; exact R
    exact cl_dl2 R W hh hp hj
  · refine gx_aload_n dX5_deliver_51 rfl ?_
    refine gx_get dX5_deliver_52 gf_X5_25 (gs_g5 R ) (v := .ref (A 0 0 0)) (rfl) ?_
    refine gx_iload_n dX5_deliver_55 rfl ?_
    refine gx_invV dX5_deliver_56 wm_X5_223 gt_X0_drop wy_X0_drop wl_X0_drop (ci := 0) rfl rfl (gs_g0 R ) (As := [.int (nI j)]) (rest := []) rfl rfl (Nat.le_of_ble_eq_true rfl) (by decide) (cc_X0_drop R W (j := j) hj) (fun r1 h q1 => ?_)
    obtain ⟨R, rfl⟩ := q1
    show gx_Ev _ _ _ _ _ [] _ _
    have ed : sc_d1 σ j b = (sc_dr σ j) := by rw [sc_d1, if_pos k1]
    have R : gs_R h (sc_d1 σ j b) A := by rw [ed]; exact R
    exact cl_dl2 R W hh hp hj
def sc_del (σ : gs_T) (x b : Int32) : gs_T := if 0 ≤ x ∧ x < nI (σ.1 2 0 0) then (if σ.2.1 6 (σ.1 8 x.toNatClampNeg 0) 0 = 0 then σ else gs_n (sc_d6 (sc_hd σ x.toNatClampNeg) x.toNatClampNeg b) 32 0 0 0) else σ
def sc_delr (σ : gs_T) (x b : Int32) : Int32 := if 0 ≤ x ∧ x < nI (σ.1 2 0 0) then (if σ.2.1 6 (σ.1 8 x.toNatClampNeg 0) 0 = 0 then -1 else nI ((sc_d6 (sc_hd σ x.toNatClampNeg) x.toNatClampNeg b).1 2 0 0)) else -1
theorem gw_hd {σ : gs_T} (W : gw_W σ) (i : Nat) : gw_W (sc_hd σ i) :=
  gw_oth (f := 32) (i := 0) (j := 0) (v := 1) (gw_oth (f := 19) (i := 0) (j := 0) (v := σ.1 18 i 0) (gw_oth (f := 17) (i := 0) (j := 0) (v := σ.1 9 i 0) (gw_oth (f := 16) (i := 0) (j := 0) (v := σ.1 8 i 0) W (by decide)) (by decide)) (by decide)) (by decide)
set_option maxHeartbeats 4000000 in
theorem cc_X5_deliver {S : gx_S} {h : gx_H} {σ : gs_T} {A : gs_A} (R : gs_R h σ A) (W : gw_W σ) (x b : Int32) : gx_Cn S gm_X5_deliver 6 [.ref (A 5 0 0), .int x, .int b] h (fun r h' => gs_R h' (sc_del σ x b) A ∧ r = some (.int (sc_delr σ x b))) := by
  refine gx_Cn.of gt_X5_deliver (by simp [Value.category]) (Nat.le_of_ble_eq_true rfl) ?_
  show gx_Ev S gm_X5_deliver 6 0 [some (.ref (A 5 0 0)), some (.int x), some (.int b), none, none] [] h _
  refine gx_aload_n dX5_deliver_0 rfl ?_
  refine gx_get dX5_deliver_1 gf_X5_25 (gs_g5 R ) (v := .ref (A 0 0 0)) (rfl) ?_
  refine gx_iload_n dX5_deliver_4 rfl ?_
  refine gx_invV dX5_deliver_5 wm_X5_100 gt_X0_has wy_X0_has wl_X0_has (ci := 0) rfl rfl (gs_g0 R ) (As := [.int x]) (rest := []) rfl rfl (Nat.le_of_ble_eq_true rfl) (by decide) (cc_X0_has R x) (fun r1 h q1 => ?_)
  obtain ⟨rfl, rfl⟩ := q1
  show gx_Ev _ _ _ _ _ [.int (gs_bi (0 ≤ x ∧ x < nI (σ.1 2 0 0)))] _ _
  refine gx_if_ne dX5_deliver_8 (tgt := 13) (by decide) (fun hc1 => ?_) (fun hc1 => ?_)
  · have hc1 := gs_b1 hc1
    refine gx_aload_n dX5_deliver_13 rfl ?_
    refine gx_get dX5_deliver_14 gf_X5_25 (gs_g5 R ) (v := .ref (A 0 0 0)) (rfl) ?_
    refine gx_get dX5_deliver_17 gf_X5_103 (gs_g0 R ) (v := .ref (A 15 0 0)) (rfl) ?_
    refine gx_iload_n dX5_deliver_20 rfl ?_
    refine gr_15 dX5_deliver_21 R (q := x.toNatClampNeg) (gs_ixl (N := σ.1 2 0 0) rfl hc1 (by have := gw_fl W; omega)).1 (by have := (gs_ixl (N := σ.1 2 0 0) rfl hc1 (by have := gw_fl W; omega)).2; have := gw_fl W; omega) (by decide) (gw_m W (gs_ixl (N := σ.1 2 0 0) rfl hc1 (by have := gw_fl W; omega)).2) ?_
    refine gx_astore_n dX5_deliver_22 (by decide) rfl (L' := [some (.ref (A 5 0 0)), some (.int x), some (.int b), some (.ref (σ.1 18 x.toNatClampNeg 0)), none]) rfl ?_
    refine gx_aload_n dX5_deliver_23 rfl ?_
    refine gx_get dX5_deliver_24 gf_X5_46 (gs_g5 R ) (v := .ref (A 7 0 0)) (rfl) ?_
    refine gx_aload_n dX5_deliver_27 rfl ?_
    refine gx_get dX5_deliver_28 gf_X5_112 (gs_g2 R (gw_m W (gs_ixl (N := σ.1 2 0 0) rfl hc1 (by have := gw_fl W; omega)).2)) (v := .ref (A 4 (σ.1 8 x.toNatClampNeg 0) (σ.1 9 x.toNatClampNeg 0))) (rfl) ?_
    refine gx_get dX5_deliver_31 gf_X5_125 (gs_g4 R (gw_mp W (gw_m W (gs_ixl (N := σ.1 2 0 0) rfl hc1 (by have := gw_fl W; omega)).2))) (v := .int (nI (σ.1 8 x.toNatClampNeg 0))) (rfl) ?_
    refine gr_7 dX5_deliver_34 R (q := σ.1 8 x.toNatClampNeg 0) rfl (gw_p W (gw_mp W (gw_m W (gs_ixl (N := σ.1 2 0 0) rfl hc1 (by have := gw_fl W; omega)).2))).1 (by have := gw_n4 W; omega) (gw_g W (gw_p W (gw_mp W (gw_m W (gs_ixl (N := σ.1 2 0 0) rfl hc1 (by have := gw_fl W; omega)).2))).1) ?_
    refine gx_astore dX5_deliver_35 (by decide) rfl (L' := [some (.ref (A 5 0 0)), some (.int x), some (.int b), some (.ref (σ.1 18 x.toNatClampNeg 0)), some (.ref (A 1 (σ.1 8 x.toNatClampNeg 0) 0))]) rfl ?_
    refine gx_aload dX5_deliver_37 rfl ?_
    refine gx_get dX5_deliver_39 gf_X5_96 (gs_g1 R (gw_g W (gw_p W (gw_mp W (gw_m W (gs_ixl (N := σ.1 2 0 0) rfl hc1 (by have := gw_fl W; omega)).2))).1)) (v := .int (σ.2.1 6 (σ.1 8 x.toNatClampNeg 0) 0)) (rfl) ?_
    refine gx_if_ne dX5_deliver_42 (tgt := 47) (by decide) (fun hc2 => ?_) (fun hc2 => ?_)
    · have hx := (gs_ixl (N := σ.1 2 0 0) rfl hc1 (by have := gw_fl W; omega))
      have k9 := cl_dl (S := S) (R.hand (gw_m W hx.2)) (gw_hd W x.toNatClampNeg) (j := x.toNatClampNeg) b rfl (gw_mp W (gw_m W hx.2)) hx.2
      have k9 := k9.mono (fun r h9 q9 => (⟨q9.1, by rw [sc_del, if_pos hc1, if_neg hc2]; exact q9.2.1.unhand, by rw [sc_delr, if_pos hc1, if_neg hc2]; exact q9.2.2⟩ : gx_rt (some .int) r ∧ gs_R h9 (sc_del σ x b) A ∧ r = some (.int (sc_delr σ x b))))
      rw [← hx.1] at k9
      exact k9
    · refine gx_iconst dX5_deliver_45 (v := (-1)) (by decide) ?_
      refine gx_ireturn dX5_deliver_46 ?_
      exact ⟨⟨_, rfl, rfl⟩, by rw [sc_del, if_pos hc1, if_pos hc2]; exact R, by rw [sc_delr, if_pos hc1, if_pos hc2]⟩
  · have hc1 := gs_b0 hc1
    refine gx_iconst dX5_deliver_11 (v := (-1)) (by decide) ?_
    refine gx_ireturn dX5_deliver_12 ?_
    exact ⟨⟨_, rfl, rfl⟩, by rw [sc_del, if_neg hc1]; exact R, by rw [sc_delr, if_neg hc1]⟩
set_option maxHeartbeats 4000000 in
theorem cc_X5_bring {S : gx_S} {h : gx_H} {σ : gs_T} {A : gs_A} (R : gs_R h σ A) (W : gw_W σ) (x : Int32) : gx_Cn S gm_X5_bring 7 [.ref (A 5 0 0), .int x] h (fun r h' => gs_R h' (sc_del σ x 0) A ∧ r = some (.int (sc_delr σ x 0))) := by
  refine gx_Cn.of gt_X5_bring (by simp [Value.category]) (Nat.le_of_ble_eq_true rfl) ?_
  show gx_Ev S gm_X5_bring 7 0 [some (.ref (A 5 0 0)), some (.int x)] [] h _
  refine gx_aload_n dX5_bring_0 rfl ?_
  refine gx_iload_n dX5_bring_1 rfl ?_
  refine gx_iconst dX5_bring_2 (v := 0) (by decide) ?_
  refine gx_invV dX5_bring_3 wm_X5_88 gt_X5_deliver wy_X5_deliver wl_X5_deliver (ci := 5) rfl rfl (gs_g5 R ) (As := [.int x, .int 0]) (rest := []) rfl rfl (Nat.le_of_ble_eq_true rfl) (by decide) (cc_X5_deliver R W x 0) (fun r1 h q1 => ?_)
  obtain ⟨R, rfl⟩ := q1
  show gx_Ev _ _ _ _ _ [.int (sc_delr σ x 0)] _ _
  refine gx_ireturn dX5_bring_6 ?_
  exact ⟨⟨_, rfl, rfl⟩, R, rfl⟩
set_option maxHeartbeats 4000000 in
theorem cc_X5_twice {S : gx_S} {h : gx_H} {σ : gs_T} {A : gs_A} (R : gs_R h σ A) (W : gw_W σ) (x : Int32) : gx_Cn S gm_X5_twice 7 [.ref (A 5 0 0), .int x] h (fun r h' => gs_R h' (sc_del σ x 1) A ∧ r = some (.int (sc_delr σ x 1))) := by
  refine gx_Cn.of gt_X5_twice (by simp [Value.category]) (Nat.le_of_ble_eq_true rfl) ?_
  show gx_Ev S gm_X5_twice 7 0 [some (.ref (A 5 0 0)), some (.int x)] [] h _
  refine gx_aload_n dX5_twice_0 rfl ?_
  refine gx_iload_n dX5_twice_1 rfl ?_
  refine gx_iconst dX5_twice_2 (v := 1) (by decide) ?_
  refine gx_invV dX5_twice_3 wm_X5_88 gt_X5_deliver wy_X5_deliver wl_X5_deliver (ci := 5) rfl rfl (gs_g5 R ) (As := [.int x, .int 1]) (rest := []) rfl rfl (Nat.le_of_ble_eq_true rfl) (by decide) (cc_X5_deliver R W x 1) (fun r1 h q1 => ?_)
  obtain ⟨R, rfl⟩ := q1
  show gx_Ev _ _ _ _ _ [.int (sc_delr σ x 1)] _ _
  refine gx_ireturn dX5_twice_6 ?_
  exact ⟨⟨_, rfl, rfl⟩, R, rfl⟩
