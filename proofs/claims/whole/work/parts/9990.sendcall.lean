/-! pure: send and up, as the law calls them -/
theorem gv_swp {μ : gs_T} (V : gv_V μ) {x t a b c : Int32} (h4 : μ.1 104 0 0 < 40) (hx : x.toNatClampNeg < 4) (ha : a.toNatClampNeg < 16) (hb : b.toNatClampNeg < 16) : gv_V (sm_sw μ x t a b c) := by
  unfold sm_sw
  refine gv_i (gv_i (gv_n (gv_n (gv_i (gv_n (gv_n V (by decide) ?_) (by decide) hx)) (by decide) ha) (by decide) hb))
  show _ + 1 ≤ 40
  omega
theorem sn_P1 {σ : gs_T} {cl u v f g : Nat} {t c : Int32} : (sc_np (sc_nw (sc_s1 σ cl t u v c) 11) f g).1 2 = σ.1 2 := by
  rw [sc_np_f (by decide) (by decide)]
  unfold sc_nw sc_s1
  simp (decide := true) only [gs_n, gs_u_ne]
  rw [sc_no_f (by decide) (by decide) (by decide) (by decide)]
  simp (decide := true) only [sc_nw, gs_n, gs_u_ne]
set_option maxHeartbeats 4000000 in
theorem sn_main {σ μ : gs_T} (J : jj_J σ μ) (W : gw_W σ) {x t a b c : Int32} (hc : sc_snc σ x t a b c) : jj_J (sc_s2 σ x.toNatClampNeg t a.toNatClampNeg b.toNatClampNeg c) (sm_po (sm_sw μ x t a b c) 0 (σ.1 1 0 0) 0 (-1) (μ.1 100 0 0)) := by
  have hn := jq_n J
  have F : σ.1 2 0 0 + ti_su (fun g => ti_su (fun o => pp_p σ g o) 40) 4 ≤ 6 * σ.1 1 0 0 := J.2.1.2.2.2.2.2.2.2
  have h40 := hc.1
  have hok := hc.2
  have hx := (gs_ixl (N := 4) rfl hok.1 (by decide)).2
  have ha := (gs_ixl (N := 16) rfl hok.2.2.1 (by decide)).2
  have hb := (gs_ixl (N := 16) rfl hok.2.2.2.1 (by decide)).2
  have hk : t = 0 ∨ t = 1 ∨ t = 2 ∨ t = 3 := by
    have h1 := hok.2.1.1
    have h2 := hok.2.1.2
    rw [ti_le, ti_0] at h1
    rw [ti_lt, show (4 : Int32).toInt = 4 by decide] at h2
    rw [ti_eq, ti_eq (y := 1), ti_eq (y := 2), ti_eq (y := 3), ti_0, ti_1, show (2 : Int32).toInt = 2 by decide, show (3 : Int32).toInt = 3 by decide]
    omega
  have e0 : μ.1 100 0 0 = σ.1 0 0 0 := J.1.1.1
  have e4 : μ.1 104 0 0 = σ.1 1 0 0 := J.1.1.2.1
  have GV := gv_swp (x := x) (t := t) (a := a) (b := b) (c := c) J.1.1.2.2.2.2.1 (by rw [e4]; exact h40) hx ha hb
  have e0w : (sm_sw μ x t a b c).1 100 0 0 = σ.1 0 0 0 := by
    rw [← e0]; unfold sm_sw; simp (decide := true) only [gs_i, gs_n, gs_u_ne]
  have hof0 : ∀ y, gv_of (sm_sw μ x t a b c) y (σ.1 1 0 0) ↔ (a.toNatClampNeg % σ.1 0 0 0 = y ∨ (¬ t = 0 ∧ b.toNatClampNeg % σ.1 0 0 0 = y)) := fun y => by
    unfold gv_of
    rw [e0w, ← e4]
    unfold sm_sw
    simp (decide := true) only [gs_i, gs_n, gs_u_ne, gs_u_at, and_self, if_true]
  have W1 := sc_s1_W W (cl := x.toNatClampNeg) (k := t) (c := c) h40 hx ha hb
  obtain ⟨k1, k2, k3, k4⟩ := sn_kf (σ := σ) (cl := x.toNatClampNeg) (u := a.toNatClampNeg) (v := b.toNatClampNeg) (t := t) (c := c)
  have hS1 : (sc_s1 σ x.toNatClampNeg t a.toNatClampNeg b.toNatClampNeg c).1 1 0 0 = σ.1 1 0 0 + 1 := by
    unfold sc_s1; exact gn_at
  obtain ⟨cl, hcl⟩ : ∃ z, x.toNatClampNeg = z := ⟨_, rfl⟩
  obtain ⟨u, hu⟩ : ∃ z, a.toNatClampNeg = z := ⟨_, rfl⟩
  obtain ⟨v, hv⟩ : ∃ z, b.toNatClampNeg = z := ⟨_, rfl⟩
  rw [hcl, hu, hv] at k1 k2 k3 k4 W1 hS1 ⊢
  rw [hu, hv] at hof0
  rw [hcl] at hx
  obtain ⟨w, hw⟩ : ∃ w, (if t = 0 then u else v) = w := ⟨_, rfl⟩
  have hof : ∀ y, gv_of (sm_sw μ x t a b c) y (σ.1 1 0 0) ↔ (y = u % σ.1 0 0 0 ∨ y = w % σ.1 0 0 0) := fun y => by
    rw [hof0]
    by_cases ht : t = 0
    · rw [if_pos ht] at hw
      rw [hw]
      constructor
      · intro z; rcases z with z | z
        · exact Or.inl z.symm
        · exact absurd ht z.1
      · intro z; left; omega
    · rw [if_neg ht] at hw
      rw [hw]
      constructor
      · intro z; rcases z with z | z
        · exact Or.inl z.symm
        · exact Or.inr z.2.symm
      · intro z; rcases z with z | z
        · exact Or.inl z.symm
        · exact Or.inr ⟨ht, z.symm⟩
  have hn0 : 0 < σ.1 0 0 0 := by omega
  have hu4 : u % σ.1 0 0 0 < σ.1 0 0 0 := Nat.mod_lt _ hn0
  have hw4 : w % σ.1 0 0 0 < σ.1 0 0 0 := Nat.mod_lt _ hn0
  rw [hw] at k2
  have hkf : sc_kf (sc_s1 σ cl t u v c) (σ.1 1 0 0) = if u % σ.1 0 0 0 ≤ w % σ.1 0 0 0 then u % σ.1 0 0 0 else w % σ.1 0 0 0 := by
    unfold sc_kf; rw [k1, k2, k3]
  have hks : sc_ks (sc_s1 σ cl t u v c) (σ.1 1 0 0) = if u % σ.1 0 0 0 ≤ w % σ.1 0 0 0 then w % σ.1 0 0 0 else u % σ.1 0 0 0 := by
    unfold sc_ks; rw [k1, k2, k3]
  have hfs : (sc_kf (sc_s1 σ cl t u v c) (σ.1 1 0 0) = u % σ.1 0 0 0 ∧ sc_ks (sc_s1 σ cl t u v c) (σ.1 1 0 0) = w % σ.1 0 0 0) ∨ (sc_kf (sc_s1 σ cl t u v c) (σ.1 1 0 0) = w % σ.1 0 0 0 ∧ sc_ks (sc_s1 σ cl t u v c) (σ.1 1 0 0) = u % σ.1 0 0 0) := by
    rw [hkf, hks]
    by_cases h : u % σ.1 0 0 0 ≤ w % σ.1 0 0 0
    · rw [if_pos h, if_pos h]; exact Or.inl ⟨rfl, rfl⟩
    · rw [if_neg h, if_neg h]; exact Or.inr ⟨rfl, rfl⟩
  have hle : sc_kf (sc_s1 σ cl t u v c) (σ.1 1 0 0) ≤ sc_ks (sc_s1 σ cl t u v c) (σ.1 1 0 0) := by
    rw [hkf, hks]
    by_cases h : u % σ.1 0 0 0 ≤ w % σ.1 0 0 0
    · rw [if_pos h, if_pos h]; exact h
    · rw [if_neg h, if_neg h]; omega
  have e2 : sc_s2 σ cl t u v c = sc_ps2 (sc_np (sc_nw (sc_s1 σ cl t u v c) 11) (sc_kf (sc_s1 σ cl t u v c) (σ.1 1 0 0)) (σ.1 1 0 0)) (sc_kf (sc_s1 σ cl t u v c) (σ.1 1 0 0)) (sc_ks (sc_s1 σ cl t u v c) (σ.1 1 0 0)) (σ.1 1 0 0) := by
    rw [sc_s2, sc_ps]
  rw [e2]
  clear e2 hkf hks
  generalize sc_kf (sc_s1 σ cl t u v c) (σ.1 1 0 0) = f at *
  generalize sc_ks (sc_s1 σ cl t u v c) (σ.1 1 0 0) = s at *
  have hf4 : f < σ.1 0 0 0 ∧ s < σ.1 0 0 0 := by omega
  have hg2 : ∀ P : gs_T, (sc_nw P 4).1 2 0 0 = P.1 2 0 0 := fun P => by
    simp (decide := true) only [sc_nw, gs_n, gs_u_ne]
  have WP1 : gw_W (sc_np (sc_nw (sc_s1 σ cl t u v c) 11) f (σ.1 1 0 0)) := by
    refine gw_np (gw_nw W1 11) ?_ ?_
    · rw [show (sc_nw (sc_s1 σ cl t u v c) 11).1 0 = (sc_s1 σ cl t u v c).1 0 by simp (decide := true) only [sc_nw, gs_n, gs_u_ne], k3]; exact hf4.1
    · rw [show (sc_nw (sc_s1 σ cl t u v c) 11).1 1 = (sc_s1 σ cl t u v c).1 1 by simp (decide := true) only [sc_nw, gs_n, gs_u_ne], hS1]; omega
  have hP16 : (sc_np (sc_nw (sc_s1 σ cl t u v c) 11) f (σ.1 1 0 0)).1 6 f (σ.1 1 0 0) = 1 := by rw [sc_np_6, if_pos ⟨rfl, rfl⟩]
  have hP12 : (sc_np (sc_nw (sc_s1 σ cl t u v c) 11) f (σ.1 1 0 0)).1 2 0 0 = σ.1 2 0 0 := by rw [sn_P1]
  have ePM : sc_pm (sc_np (sc_nw (sc_s1 σ cl t u v c) 11) f (σ.1 1 0 0)) 0 (-1) f (σ.1 1 0 0) 0 = gs_n (sc_ad (sc_nw (sc_np (sc_nw (sc_s1 σ cl t u v c) 11) f (σ.1 1 0 0)) 4) (σ.1 2 0 0) ((sc_np (sc_nw (sc_s1 σ cl t u v c) 11) f (σ.1 1 0 0)).1 20 0 0) 0 (-1) f (σ.1 1 0 0) 0) 2 0 0 (σ.1 2 0 0 + 1) := by
    rw [sc_pm, sc_pt, hg2, hP12, if_pos (by omega)]
  have WPM := gw_pm (k := 0) (f := -1) (c := 0) WP1 hP16
  unfold sc_ps2
  by_cases hfe : f = s
  · rw [if_pos hfe, po_one (q := f) (by rw [e0]; exact hf4.1) (fun y hy => ?_)]
    · have GV2 := gv_put (k := 0) (o := σ.1 1 0 0) (f := 0) (g := f) (t := -1) GV h40 (Nat.zero_le _) (by rw [e0w]; exact hf4.1)
      rw [ePM] at WPM ⊢
      exact sn_one J h40 hcl hu hv hw hfe hfs hk hx GV2 WPM
    · rw [hof]
      constructor
      · intro z; have := z.2; omega
      · intro z; exact ⟨by omega, by omega⟩
  · rw [if_neg hfe, po_two (p := f) (q := s) (by omega) (by rw [e0]; exact hf4.2) (fun y hy => ?_)]
    · have GV2 := gv_put (k := 0) (o := σ.1 1 0 0) (f := 0) (g := f) (t := -1) GV h40 (Nat.zero_le _) (by rw [e0w]; exact hf4.1)
      have e0p : (sm_put (sm_sw μ x t a b c) 0 (σ.1 1 0 0) 0 f (-1)).1 100 0 0 = σ.1 0 0 0 := by
        rw [← e0w]; unfold sm_put; simp (decide := true) only [gs_i, gs_n, gs_u_ne]
      have GV3 := gv_put (k := 0) (o := σ.1 1 0 0) (f := 0) (g := s) (t := -1) GV2 h40 (Nat.zero_le _) (by rw [e0p]; exact hf4.2)
      unfold sc_ps3
      have k0 : (sc_nw (sc_pm (sc_np (sc_nw (sc_s1 σ cl t u v c) 11) f (σ.1 1 0 0)) 0 (-1) f (σ.1 1 0 0) 0) 11).1 0 0 0 = σ.1 0 0 0 := by
        rw [show ∀ P : gs_T, (sc_nw P 11).1 0 = P.1 0 from fun P => by simp (decide := true) only [sc_nw, gs_n, gs_u_ne], sc_pm_f (by decide), sc_np_f (by decide) (by decide), show ∀ P : gs_T, (sc_nw P 11).1 0 = P.1 0 from fun P => by simp (decide := true) only [sc_nw, gs_n, gs_u_ne], k3]
      have k1' : (sc_nw (sc_pm (sc_np (sc_nw (sc_s1 σ cl t u v c) 11) f (σ.1 1 0 0)) 0 (-1) f (σ.1 1 0 0) 0) 11).1 1 0 0 = σ.1 1 0 0 + 1 := by
        rw [show ∀ P : gs_T, (sc_nw P 11).1 1 = P.1 1 from fun P => by simp (decide := true) only [sc_nw, gs_n, gs_u_ne], sc_pm_f (by decide), sc_np_f (by decide) (by decide), show ∀ P : gs_T, (sc_nw P 11).1 1 = P.1 1 from fun P => by simp (decide := true) only [sc_nw, gs_n, gs_u_ne], hS1]
      have k6' : (sc_nw (sc_pm (sc_np (sc_nw (sc_s1 σ cl t u v c) 11) f (σ.1 1 0 0)) 0 (-1) f (σ.1 1 0 0) 0) 11).1 6 f (σ.1 1 0 0) = 1 := by
        rw [show ∀ P : gs_T, (sc_nw P 11).1 6 = P.1 6 from fun P => by simp (decide := true) only [sc_nw, gs_n, gs_u_ne], sc_pm_f (by decide), hP16]
      have WP2 := gw_np (gw_nw WPM 11) (g := s) (q := σ.1 1 0 0) (by rw [k0]; exact hf4.2) (by rw [k1']; omega)
      have hP26 : (sc_np (sc_nw (sc_pm (sc_np (sc_nw (sc_s1 σ cl t u v c) 11) f (σ.1 1 0 0)) 0 (-1) f (σ.1 1 0 0) 0) 11) s (σ.1 1 0 0)).1 6 s (σ.1 1 0 0) = 1 := by rw [sc_np_6, if_pos ⟨rfl, rfl⟩]
      have hP26f : (sc_np (sc_nw (sc_pm (sc_np (sc_nw (sc_s1 σ cl t u v c) 11) f (σ.1 1 0 0)) 0 (-1) f (σ.1 1 0 0) 0) 11) s (σ.1 1 0 0)).1 6 f (σ.1 1 0 0) = 1 := by rw [sc_np_6, if_neg (by omega), k6']
      have hP22 : (sc_np (sc_nw (sc_pm (sc_np (sc_nw (sc_s1 σ cl t u v c) 11) f (σ.1 1 0 0)) 0 (-1) f (σ.1 1 0 0) 0) 11) s (σ.1 1 0 0)).1 2 0 0 = σ.1 2 0 0 + 1 := by
        rw [sc_np_f (by decide) (by decide), show ∀ P : gs_T, (sc_nw P 11).1 2 = P.1 2 from fun P => by simp (decide := true) only [sc_nw, gs_n, gs_u_ne], ePM]
        exact gn_at
      have ePM2 : sc_pm (sc_np (sc_nw (sc_pm (sc_np (sc_nw (sc_s1 σ cl t u v c) 11) f (σ.1 1 0 0)) 0 (-1) f (σ.1 1 0 0) 0) 11) s (σ.1 1 0 0)) 0 (-1) s (σ.1 1 0 0) 0 = gs_n (sc_ad (sc_nw (sc_np (sc_nw (sc_pm (sc_np (sc_nw (sc_s1 σ cl t u v c) 11) f (σ.1 1 0 0)) 0 (-1) f (σ.1 1 0 0) 0) 11) s (σ.1 1 0 0)) 4) (σ.1 2 0 0 + 1) ((sc_np (sc_nw (sc_pm (sc_np (sc_nw (sc_s1 σ cl t u v c) 11) f (σ.1 1 0 0)) 0 (-1) f (σ.1 1 0 0) 0) 11) s (σ.1 1 0 0)).1 20 0 0) 0 (-1) s (σ.1 1 0 0) 0) 2 0 0 (σ.1 2 0 0 + 1 + 1) := by
        rw [sc_pm, sc_pt, hg2, hP22, if_pos (by omega)]
      have WPM2 := gw_pm (k := 0) (f := -1) (c := 0) WP2 hP26
      have h6s := (sc_pm_f (t := 6) (k := 0) (f := -1) (g := s) (o := σ.1 1 0 0) (c := 0) (σ := sc_np (sc_nw (sc_pm (sc_np (sc_nw (sc_s1 σ cl t u v c) 11) f (σ.1 1 0 0)) 0 (-1) f (σ.1 1 0 0) 0) 11) s (σ.1 1 0 0)) (by decide))
      have W7 := gw_n7 WPM2 (g := f) (q := σ.1 1 0 0) (s := s) (by rw [h6s]; exact hP26)
      have W8 := gw_n7 W7 (g := s) (q := σ.1 1 0 0) (s := f) (by rw [gn_ne (by decide), h6s]; exact hP26f)
      rw [ePM2, ePM] at W8 ⊢
      exact sn_two J h40 hcl hu hv hw (by omega) hfs hk hx GV3 W8
    · rw [hof]
      constructor
      · intro z; have := z.2; omega
      · intro z; exact ⟨by omega, by omega⟩
