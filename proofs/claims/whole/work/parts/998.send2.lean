/-! pure: send, as the law calls it -/
theorem sn_kf {σ : gs_T} {cl u v : Nat} {t c : Int32} : (sc_s1 σ cl t u v c).1 13 (σ.1 1 0 0) 0 = u ∧ (sc_s1 σ cl t u v c).1 14 (σ.1 1 0 0) 0 = (if t = 0 then u else v) ∧ (sc_s1 σ cl t u v c).1 0 = σ.1 0 ∧ (sc_s1 σ cl t u v c).1 2 = σ.1 2 := by
  unfold sc_s1 sc_no sc_nw
  refine ⟨?_, ?_, ?_, ?_⟩ <;> simp (decide := true) only [gs_i, gs_n, gs_l, gs_u_ne, gs_u_at, and_self, if_true]
set_option maxHeartbeats 8000000 in
set_option maxRecDepth 100000 in
theorem sn_one {σ μ : gs_T} (J : jj_J σ μ) {f s cl u v w : Nat} {x t a b c : Int32} (hq4 : σ.1 1 0 0 < 40) (hx : x.toNatClampNeg = cl) (ha : a.toNatClampNeg = u) (hbb : b.toNatClampNeg = v) (hw : (if t = 0 then u else v) = w) {A1 : Nat} (hfe : f = s) (hfs : (f = u % σ.1 0 0 0 ∧ s = w % σ.1 0 0 0) ∨ (f = w % σ.1 0 0 0 ∧ s = u % σ.1 0 0 0)) (hk : t = 0 ∨ t = 1 ∨ t = 2 ∨ t = 3) (hcl : cl < 4) (GV : gv_V (sm_put (sm_sw μ x t a b c) 0 (σ.1 1 0 0) 0 f (-1))) (GW : gw_W (gs_n (sc_ad (sc_nw (sc_np (sc_nw (sc_s1 σ cl t u v c) 11) f (σ.1 1 0 0)) 4) (σ.1 2 0 0) A1 0 (-1) f (σ.1 1 0 0) 0) 2 0 0 ((σ.1 2 0 0) + 1))) : jj_J (gs_n (sc_ad (sc_nw (sc_np (sc_nw (sc_s1 σ cl t u v c) 11) f (σ.1 1 0 0)) 4) (σ.1 2 0 0) A1 0 (-1) f (σ.1 1 0 0) 0) 2 0 0 ((σ.1 2 0 0) + 1)) (sm_put (sm_sw μ x t a b c) 0 (σ.1 1 0 0) 0 f (-1)) := by
  obtain ⟨τ', hT⟩ : ∃ z, z = (gs_n (sc_ad (sc_nw (sc_np (sc_nw (sc_s1 σ cl t u v c) 11) f (σ.1 1 0 0)) 4) (σ.1 2 0 0) A1 0 (-1) f (σ.1 1 0 0) 0) 2 0 0 ((σ.1 2 0 0) + 1)) := ⟨_, rfl⟩
  obtain ⟨μ', hM⟩ : ∃ z, z = (sm_put (sm_sw μ x t a b c) 0 (σ.1 1 0 0) 0 f (-1)) := ⟨_, rfl⟩
  rw [← hT] at GW ⊢
  rw [← hM] at GV ⊢
  have e4 : μ.1 104 0 0 = σ.1 1 0 0 := J.1.1.2.1
  have e25 : μ.1 125 0 0 = σ.1 2 0 0 := J.1.1.2.2.1
  rw [sm_sw, e4, hx, ha, hbb] at hM
  rw [sc_s1, hw] at hT
  generalize hqq : σ.1 1 0 0 = q at *
  generalize hnn : σ.1 2 0 0 = N at *
  have n0 : τ'.1 0 = σ.1 0 := by
    rw [hT]; simp (decide := true) only [sc_pm, sc_ad, sc_nw, sc_np, sc_s1, sc_no, sm_put, sm_sw, gs_i, gs_n, gs_l, gs_u_ne, gs_u_at, and_true, eq_self]
  have n3 : τ'.1 3 = σ.1 3 := by
    rw [hT]; simp (decide := true) only [sc_pm, sc_ad, sc_nw, sc_np, sc_s1, sc_no, sm_put, sm_sw, gs_i, gs_n, gs_l, gs_u_ne, gs_u_at, and_true, eq_self]
  have n4 : τ'.1 4 = σ.1 4 := by
    rw [hT]; simp (decide := true) only [sc_pm, sc_ad, sc_nw, sc_np, sc_s1, sc_no, sm_put, sm_sw, gs_i, gs_n, gs_l, gs_u_ne, gs_u_at, and_true, eq_self]
  have n5 : τ'.1 5 = σ.1 5 := by
    rw [hT]; simp (decide := true) only [sc_pm, sc_ad, sc_nw, sc_np, sc_s1, sc_no, sm_put, sm_sw, gs_i, gs_n, gs_l, gs_u_ne, gs_u_at, and_true, eq_self]
  have i5 : τ'.2.1 5 = σ.2.1 5 := by
    rw [hT]; simp (decide := true) only [sc_pm, sc_ad, sc_nw, sc_np, sc_s1, sc_no, sm_put, sm_sw, gs_i, gs_n, gs_l, gs_u_ne, gs_u_at, and_true, eq_self]
  have i6 : τ'.2.1 6 = σ.2.1 6 := by
    rw [hT]; simp (decide := true) only [sc_pm, sc_ad, sc_nw, sc_np, sc_s1, sc_no, sm_put, sm_sw, gs_i, gs_n, gs_l, gs_u_ne, gs_u_at, and_true, eq_self]
  have i7 : τ'.2.1 7 = σ.2.1 7 := by
    rw [hT]; simp (decide := true) only [sc_pm, sc_ad, sc_nw, sc_np, sc_s1, sc_no, sm_put, sm_sw, gs_i, gs_n, gs_l, gs_u_ne, gs_u_at, and_true, eq_self]
  have i19 : τ'.2.1 19 = σ.2.1 19 := by
    rw [hT]; simp (decide := true) only [sc_pm, sc_ad, sc_nw, sc_np, sc_s1, sc_no, sm_put, sm_sw, gs_i, gs_n, gs_l, gs_u_ne, gs_u_at, and_true, eq_self]
  have i20 : τ'.2.1 20 = σ.2.1 20 := by
    rw [hT]; simp (decide := true) only [sc_pm, sc_ad, sc_nw, sc_np, sc_s1, sc_no, sm_put, sm_sw, gs_i, gs_n, gs_l, gs_u_ne, gs_u_at, and_true, eq_self]
  have m31 : μ'.1 31 = μ.1 31 := by
    rw [hM]; simp (decide := true) only [sc_pm, sc_ad, sc_nw, sc_np, sc_s1, sc_no, sm_put, sm_sw, gs_i, gs_n, gs_l, gs_u_ne, gs_u_at, and_true, eq_self, e25]
  have m100 : μ'.1 100 = μ.1 100 := by
    rw [hM]; simp (decide := true) only [sc_pm, sc_ad, sc_nw, sc_np, sc_s1, sc_no, sm_put, sm_sw, gs_i, gs_n, gs_l, gs_u_ne, gs_u_at, and_true, eq_self, e25]
  have m123 : μ'.1 123 = μ.1 123 := by
    rw [hM]; simp (decide := true) only [sc_pm, sc_ad, sc_nw, sc_np, sc_s1, sc_no, sm_put, sm_sw, gs_i, gs_n, gs_l, gs_u_ne, gs_u_at, and_true, eq_self, e25]
  have m124 : μ'.1 124 = μ.1 124 := by
    rw [hM]; simp (decide := true) only [sc_pm, sc_ad, sc_nw, sc_np, sc_s1, sc_no, sm_put, sm_sw, gs_i, gs_n, gs_l, gs_u_ne, gs_u_at, and_true, eq_self, e25]
  have k101 : μ'.2.1 101 = μ.2.1 101 := by
    rw [hM]; simp (decide := true) only [sc_pm, sc_ad, sc_nw, sc_np, sc_s1, sc_no, sm_put, sm_sw, gs_i, gs_n, gs_l, gs_u_ne, gs_u_at, and_true, eq_self, e25]
  have k102 : μ'.2.1 102 = μ.2.1 102 := by
    rw [hM]; simp (decide := true) only [sc_pm, sc_ad, sc_nw, sc_np, sc_s1, sc_no, sm_put, sm_sw, gs_i, gs_n, gs_l, gs_u_ne, gs_u_at, and_true, eq_self, e25]
  have k103 : μ'.2.1 103 = μ.2.1 103 := by
    rw [hM]; simp (decide := true) only [sc_pm, sc_ad, sc_nw, sc_np, sc_s1, sc_no, sm_put, sm_sw, gs_i, gs_n, gs_l, gs_u_ne, gs_u_at, and_true, eq_self, e25]
  have k111 : μ'.2.1 111 = μ.2.1 111 := by
    rw [hM]; simp (decide := true) only [sc_pm, sc_ad, sc_nw, sc_np, sc_s1, sc_no, sm_put, sm_sw, gs_i, gs_n, gs_l, gs_u_ne, gs_u_at, and_true, eq_self, e25]
  have k112 : μ'.2.1 112 = μ.2.1 112 := by
    rw [hM]; simp (decide := true) only [sc_pm, sc_ad, sc_nw, sc_np, sc_s1, sc_no, sm_put, sm_sw, gs_i, gs_n, gs_l, gs_u_ne, gs_u_at, and_true, eq_self, e25]
  have k113 : μ'.2.1 113 = μ.2.1 113 := by
    rw [hM]; simp (decide := true) only [sc_pm, sc_ad, sc_nw, sc_np, sc_s1, sc_no, sm_put, sm_sw, gs_i, gs_n, gs_l, gs_u_ne, gs_u_at, and_true, eq_self, e25]
  have k114 : μ'.2.1 114 = μ.2.1 114 := by
    rw [hM]; simp (decide := true) only [sc_pm, sc_ad, sc_nw, sc_np, sc_s1, sc_no, sm_put, sm_sw, gs_i, gs_n, gs_l, gs_u_ne, gs_u_at, and_true, eq_self, e25]
  have k115 : μ'.2.1 115 = μ.2.1 115 := by
    rw [hM]; simp (decide := true) only [sc_pm, sc_ad, sc_nw, sc_np, sc_s1, sc_no, sm_put, sm_sw, gs_i, gs_n, gs_l, gs_u_ne, gs_u_at, and_true, eq_self, e25]
  have k116 : μ'.2.1 116 = μ.2.1 116 := by
    rw [hM]; simp (decide := true) only [sc_pm, sc_ad, sc_nw, sc_np, sc_s1, sc_no, sm_put, sm_sw, gs_i, gs_n, gs_l, gs_u_ne, gs_u_at, and_true, eq_self, e25]
  have k117 : μ'.2.1 117 = μ.2.1 117 := by
    rw [hM]; simp (decide := true) only [sc_pm, sc_ad, sc_nw, sc_np, sc_s1, sc_no, sm_put, sm_sw, gs_i, gs_n, gs_l, gs_u_ne, gs_u_at, and_true, eq_self, e25]
  have k118 : μ'.2.1 118 = μ.2.1 118 := by
    rw [hM]; simp (decide := true) only [sc_pm, sc_ad, sc_nw, sc_np, sc_s1, sc_no, sm_put, sm_sw, gs_i, gs_n, gs_l, gs_u_ne, gs_u_at, and_true, eq_self, e25]
  have k119 : μ'.2.1 119 = μ.2.1 119 := by
    rw [hM]; simp (decide := true) only [sc_pm, sc_ad, sc_nw, sc_np, sc_s1, sc_no, sm_put, sm_sw, gs_i, gs_n, gs_l, gs_u_ne, gs_u_at, and_true, eq_self, e25]
  have k120 : μ'.2.1 120 = μ.2.1 120 := by
    rw [hM]; simp (decide := true) only [sc_pm, sc_ad, sc_nw, sc_np, sc_s1, sc_no, sm_put, sm_sw, gs_i, gs_n, gs_l, gs_u_ne, gs_u_at, and_true, eq_self, e25]
  have k121 : μ'.2.1 121 = μ.2.1 121 := by
    rw [hM]; simp (decide := true) only [sc_pm, sc_ad, sc_nw, sc_np, sc_s1, sc_no, sm_put, sm_sw, gs_i, gs_n, gs_l, gs_u_ne, gs_u_at, and_true, eq_self, e25]
  have k122 : μ'.2.1 122 = μ.2.1 122 := by
    rw [hM]; simp (decide := true) only [sc_pm, sc_ad, sc_nw, sc_np, sc_s1, sc_no, sm_put, sm_sw, gs_i, gs_n, gs_l, gs_u_ne, gs_u_at, and_true, eq_self, e25]
  have k133 : μ'.2.1 133 = μ.2.1 133 := by
    rw [hM]; simp (decide := true) only [sc_pm, sc_ad, sc_nw, sc_np, sc_s1, sc_no, sm_put, sm_sw, gs_i, gs_n, gs_l, gs_u_ne, gs_u_at, and_true, eq_self, e25]
  have N1 : τ'.1 1 0 0 = q + 1 := by
    rw [hT]; simp (decide := true) only [sc_pm, sc_ad, sc_nw, sc_np, sc_s1, sc_no, sm_put, sm_sw, gs_i, gs_n, gs_l, gs_u_ne, gs_u_at, and_true, eq_self]; try rfl
  have N2 : τ'.1 2 0 0 = N + 1 := by
    rw [hT]; simp (decide := true) only [sc_pm, sc_ad, sc_nw, sc_np, sc_s1, sc_no, sm_put, sm_sw, gs_i, gs_n, gs_l, gs_u_ne, gs_u_at, and_true, eq_self]; try simp [hnn]
  have o12 : ∀ y, τ'.1 12 y 0 = if y = q then cl else σ.1 12 y 0 := by
    intro y; rw [hT]; simp (decide := true) only [sc_pm, sc_ad, sc_nw, sc_np, sc_s1, sc_no, sm_put, sm_sw, gs_i, gs_n, gs_l, gs_u_ne, gs_u_at, and_true, eq_self]
  have o13 : ∀ y, τ'.1 13 y 0 = if y = q then u else σ.1 13 y 0 := by
    intro y; rw [hT]; simp (decide := true) only [sc_pm, sc_ad, sc_nw, sc_np, sc_s1, sc_no, sm_put, sm_sw, gs_i, gs_n, gs_l, gs_u_ne, gs_u_at, and_true, eq_self]
  have o14 : ∀ y, τ'.1 14 y 0 = if y = q then w else σ.1 14 y 0 := by
    intro y; rw [hT]; simp (decide := true) only [sc_pm, sc_ad, sc_nw, sc_np, sc_s1, sc_no, sm_put, sm_sw, gs_i, gs_n, gs_l, gs_u_ne, gs_u_at, and_true, eq_self]
  have b0 : ∀ y, τ'.2.1 0 y 0 = if y = q then t else σ.2.1 0 y 0 := by
    intro y; rw [hT]; simp (decide := true) only [sc_pm, sc_ad, sc_nw, sc_np, sc_s1, sc_no, sm_put, sm_sw, gs_i, gs_n, gs_l, gs_u_ne, gs_u_at, and_true, eq_self]
  have b1 : ∀ y, τ'.2.1 1 y 0 = if y = q then c else σ.2.1 1 y 0 := by
    intro y; rw [hT]; simp (decide := true) only [sc_pm, sc_ad, sc_nw, sc_np, sc_s1, sc_no, sm_put, sm_sw, gs_i, gs_n, gs_l, gs_u_ne, gs_u_at, and_true, eq_self]
  have b2 : ∀ y, τ'.2.1 2 y 0 = if y = q then σ.2.1 20 cl 0 else σ.2.1 2 y 0 := by
    intro y; rw [hT]; simp (decide := true) only [sc_pm, sc_ad, sc_nw, sc_np, sc_s1, sc_no, sm_put, sm_sw, gs_i, gs_n, gs_l, gs_u_ne, gs_u_at, and_true, eq_self]
  have b3 : ∀ y, τ'.2.1 3 y 0 = if y = q then 0 else σ.2.1 3 y 0 := by
    intro y; rw [hT]; simp (decide := true) only [sc_pm, sc_ad, sc_nw, sc_np, sc_s1, sc_no, sm_put, sm_sw, gs_i, gs_n, gs_l, gs_u_ne, gs_u_at, and_true, eq_self]
  have b4 : ∀ y, τ'.2.1 4 y 0 = if y = q then 0 else σ.2.1 4 y 0 := by
    intro y; rw [hT]; simp (decide := true) only [sc_pm, sc_ad, sc_nw, sc_np, sc_s1, sc_no, sm_put, sm_sw, gs_i, gs_n, gs_l, gs_u_ne, gs_u_at, and_true, eq_self]
  have p6 : ∀ x y, τ'.1 6 x y = if (x = f ∨ x = s) ∧ y = q then 1 else σ.1 6 x y := by
    intro x y; rw [hT]; simp (decide := true) only [sc_pm, sc_ad, sc_nw, sc_np, sc_s1, sc_no, sm_put, sm_sw, gs_i, gs_n, gs_l, gs_u_ne, gs_u_at, and_true, eq_self]; (try grind)
  have p7 : ∀ x y, τ'.1 7 x y = if (x = f ∨ x = s) ∧ y = q then (if f = s then 0 else if x = f then s + 1 else f + 1) else σ.1 7 x y := by
    intro x y; rw [hT]; simp (decide := true) only [sc_pm, sc_ad, sc_nw, sc_np, sc_s1, sc_no, sm_put, sm_sw, gs_i, gs_n, gs_l, gs_u_ne, gs_u_at, and_true, eq_self]; (try grind)
  have p8 : ∀ x y, τ'.2.1 8 x y = if (x = f ∨ x = s) ∧ y = q then -1 else σ.2.1 8 x y := by
    intro x y; rw [hT]; simp (decide := true) only [sc_pm, sc_ad, sc_nw, sc_np, sc_s1, sc_no, sm_put, sm_sw, gs_i, gs_n, gs_l, gs_u_ne, gs_u_at, and_true, eq_self]; (try grind)
  have p9 : ∀ x y, τ'.2.1 9 x y = if (x = f ∨ x = s) ∧ y = q then -1 else σ.2.1 9 x y := by
    intro x y; rw [hT]; simp (decide := true) only [sc_pm, sc_ad, sc_nw, sc_np, sc_s1, sc_no, sm_put, sm_sw, gs_i, gs_n, gs_l, gs_u_ne, gs_u_at, and_true, eq_self]; (try grind)
  have p10 : ∀ x y, τ'.2.1 10 x y = if (x = f ∨ x = s) ∧ y = q then -1 else σ.2.1 10 x y := by
    intro x y; rw [hT]; simp (decide := true) only [sc_pm, sc_ad, sc_nw, sc_np, sc_s1, sc_no, sm_put, sm_sw, gs_i, gs_n, gs_l, gs_u_ne, gs_u_at, and_true, eq_self]; (try grind)
  have p11 : ∀ x y, τ'.2.1 11 x y = if (x = f ∨ x = s) ∧ y = q then 0 else σ.2.1 11 x y := by
    intro x y; rw [hT]; simp (decide := true) only [sc_pm, sc_ad, sc_nw, sc_np, sc_s1, sc_no, sm_put, sm_sw, gs_i, gs_n, gs_l, gs_u_ne, gs_u_at, and_true, eq_self]; (try grind)
  have p12 : ∀ x y, τ'.2.1 12 x y = if (x = f ∨ x = s) ∧ y = q then 0 else σ.2.1 12 x y := by
    intro x y; rw [hT]; simp (decide := true) only [sc_pm, sc_ad, sc_nw, sc_np, sc_s1, sc_no, sm_put, sm_sw, gs_i, gs_n, gs_l, gs_u_ne, gs_u_at, and_true, eq_self]; (try grind)
  have p13 : ∀ x y, τ'.2.1 13 x y = if (x = f ∨ x = s) ∧ y = q then 0 else σ.2.1 13 x y := by
    intro x y; rw [hT]; simp (decide := true) only [sc_pm, sc_ad, sc_nw, sc_np, sc_s1, sc_no, sm_put, sm_sw, gs_i, gs_n, gs_l, gs_u_ne, gs_u_at, and_true, eq_self]; (try grind)
  have p14 : ∀ x y, τ'.2.1 14 x y = if (x = f ∨ x = s) ∧ y = q then 0 else σ.2.1 14 x y := by
    intro x y; rw [hT]; simp (decide := true) only [sc_pm, sc_ad, sc_nw, sc_np, sc_s1, sc_no, sm_put, sm_sw, gs_i, gs_n, gs_l, gs_u_ne, gs_u_at, and_true, eq_self]; (try grind)
  have p15 : ∀ x y, τ'.2.1 15 x y = if (x = f ∨ x = s) ∧ y = q then 0 else σ.2.1 15 x y := by
    intro x y; rw [hT]; simp (decide := true) only [sc_pm, sc_ad, sc_nw, sc_np, sc_s1, sc_no, sm_put, sm_sw, gs_i, gs_n, gs_l, gs_u_ne, gs_u_at, and_true, eq_self]; (try grind)
  have x8 : ∀ i, i < N → τ'.1 8 i 0 = σ.1 8 i 0 := by
    intro i hi; rw [hT]; simp (decide := true) only [sc_pm, sc_ad, sc_nw, sc_np, sc_s1, sc_no, sm_put, sm_sw, gs_i, gs_n, gs_l, gs_u_ne, gs_u_at, and_true, eq_self]; (try simp only [hnn]); (try grind)
  have x9 : ∀ i, i < N → τ'.1 9 i 0 = σ.1 9 i 0 := by
    intro i hi; rw [hT]; simp (decide := true) only [sc_pm, sc_ad, sc_nw, sc_np, sc_s1, sc_no, sm_put, sm_sw, gs_i, gs_n, gs_l, gs_u_ne, gs_u_at, and_true, eq_self]; (try simp only [hnn]); (try grind)
  have x16 : ∀ i, i < N → τ'.2.1 16 i 0 = σ.2.1 16 i 0 := by
    intro i hi; rw [hT]; simp (decide := true) only [sc_pm, sc_ad, sc_nw, sc_np, sc_s1, sc_no, sm_put, sm_sw, gs_i, gs_n, gs_l, gs_u_ne, gs_u_at, and_true, eq_self]; (try simp only [hnn]); (try grind)
  have x17 : ∀ i, i < N → τ'.2.1 17 i 0 = σ.2.1 17 i 0 := by
    intro i hi; rw [hT]; simp (decide := true) only [sc_pm, sc_ad, sc_nw, sc_np, sc_s1, sc_no, sm_put, sm_sw, gs_i, gs_n, gs_l, gs_u_ne, gs_u_at, and_true, eq_self]; (try simp only [hnn]); (try grind)
  have x18 : ∀ i, i < N → τ'.2.1 18 i 0 = σ.2.1 18 i 0 := by
    intro i hi; rw [hT]; simp (decide := true) only [sc_pm, sc_ad, sc_nw, sc_np, sc_s1, sc_no, sm_put, sm_sw, gs_i, gs_n, gs_l, gs_u_ne, gs_u_at, and_true, eq_self]; (try simp only [hnn]); (try grind)
  have x126 : ∀ i, i < N → μ'.2.1 126 i 0 = μ.2.1 126 i 0 := by
    intro i hi; rw [hM]; simp (decide := true) only [sc_pm, sc_ad, sc_nw, sc_np, sc_s1, sc_no, sm_put, sm_sw, gs_i, gs_n, gs_l, gs_u_ne, gs_u_at, and_true, eq_self, e25]; (try grind)
  have x127 : ∀ i, i < N → μ'.1 127 i 0 = μ.1 127 i 0 := by
    intro i hi; rw [hM]; simp (decide := true) only [sc_pm, sc_ad, sc_nw, sc_np, sc_s1, sc_no, sm_put, sm_sw, gs_i, gs_n, gs_l, gs_u_ne, gs_u_at, and_true, eq_self, e25]; (try grind)
  have x128 : ∀ i, i < N → μ'.1 128 i 0 = μ.1 128 i 0 := by
    intro i hi; rw [hM]; simp (decide := true) only [sc_pm, sc_ad, sc_nw, sc_np, sc_s1, sc_no, sm_put, sm_sw, gs_i, gs_n, gs_l, gs_u_ne, gs_u_at, and_true, eq_self, e25]; (try grind)
  have x129 : ∀ i, i < N → μ'.1 129 i 0 = μ.1 129 i 0 := by
    intro i hi; rw [hM]; simp (decide := true) only [sc_pm, sc_ad, sc_nw, sc_np, sc_s1, sc_no, sm_put, sm_sw, gs_i, gs_n, gs_l, gs_u_ne, gs_u_at, and_true, eq_self, e25]; (try grind)
  have x130 : ∀ i, i < N → μ'.2.1 130 i 0 = μ.2.1 130 i 0 := by
    intro i hi; rw [hM]; simp (decide := true) only [sc_pm, sc_ad, sc_nw, sc_np, sc_s1, sc_no, sm_put, sm_sw, gs_i, gs_n, gs_l, gs_u_ne, gs_u_at, and_true, eq_self, e25]; (try grind)
  have x131 : ∀ i, i < N → μ'.2.1 131 i 0 = μ.2.1 131 i 0 := by
    intro i hi; rw [hM]; simp (decide := true) only [sc_pm, sc_ad, sc_nw, sc_np, sc_s1, sc_no, sm_put, sm_sw, gs_i, gs_n, gs_l, gs_u_ne, gs_u_at, and_true, eq_self, e25]; (try grind)
  have x132 : ∀ i, i < N → μ'.2.1 132 i 0 = μ.2.1 132 i 0 := by
    intro i hi; rw [hM]; simp (decide := true) only [sc_pm, sc_ad, sc_nw, sc_np, sc_s1, sc_no, sm_put, sm_sw, gs_i, gs_n, gs_l, gs_u_ne, gs_u_at, and_true, eq_self, e25]; (try grind)
  have new : ∀ i, N ≤ i → i < N + 1 → τ'.2.1 16 i 0 = 0 ∧ τ'.2.1 17 i 0 = -1 ∧ τ'.1 9 i 0 = q ∧ μ'.2.1 126 i 0 = 0 ∧ μ'.1 127 i 0 = q ∧ μ'.1 128 i 0 = 0 ∧ μ'.1 129 i 0 = τ'.1 8 i 0 ∧ μ'.2.1 130 i 0 = -1 := by
    intro i h1 h2; refine ⟨?_, ?_, ?_, ?_, ?_, ?_, ?_, ?_⟩
    · rw [hT]; simp (decide := true) only [sc_pm, sc_ad, sc_nw, sc_np, sc_s1, sc_no, sm_put, sm_sw, gs_i, gs_n, gs_l, gs_u_ne, gs_u_at, and_true, eq_self]; (try simp only [hnn]); (try grind)
    · rw [hT]; simp (decide := true) only [sc_pm, sc_ad, sc_nw, sc_np, sc_s1, sc_no, sm_put, sm_sw, gs_i, gs_n, gs_l, gs_u_ne, gs_u_at, and_true, eq_self]; (try simp only [hnn]); (try grind)
    · rw [hT]; simp (decide := true) only [sc_pm, sc_ad, sc_nw, sc_np, sc_s1, sc_no, sm_put, sm_sw, gs_i, gs_n, gs_l, gs_u_ne, gs_u_at, and_true, eq_self]; (try simp only [hnn]); (try grind)
    · rw [hM]; simp (decide := true) only [sc_pm, sc_ad, sc_nw, sc_np, sc_s1, sc_no, sm_put, sm_sw, gs_i, gs_n, gs_l, gs_u_ne, gs_u_at, and_true, eq_self, e25]; (try simp only [hnn]); (try grind)
    · rw [hM]; simp (decide := true) only [sc_pm, sc_ad, sc_nw, sc_np, sc_s1, sc_no, sm_put, sm_sw, gs_i, gs_n, gs_l, gs_u_ne, gs_u_at, and_true, eq_self, e25]; (try simp only [hnn]); (try grind)
    · rw [hM]; simp (decide := true) only [sc_pm, sc_ad, sc_nw, sc_np, sc_s1, sc_no, sm_put, sm_sw, gs_i, gs_n, gs_l, gs_u_ne, gs_u_at, and_true, eq_self, e25]; (try simp only [hnn]); (try grind)
    · rw [hM, hT]; simp (decide := true) only [sc_pm, sc_ad, sc_nw, sc_np, sc_s1, sc_no, sm_put, sm_sw, gs_i, gs_n, gs_l, gs_u_ne, gs_u_at, and_true, eq_self, e25]; (try simp only [hnn]); (try grind)
    · rw [hM]; simp (decide := true) only [sc_pm, sc_ad, sc_nw, sc_np, sc_s1, sc_no, sm_put, sm_sw, gs_i, gs_n, gs_l, gs_u_ne, gs_u_at, and_true, eq_self, e25]; (try simp only [hnn]); (try grind)
  have ll : ∀ y, ¬ y = q → τ'.2.2 y = σ.2.2 y := by
    intro y hy; rw [hT]; simp (decide := true) only [sc_pm, sc_ad, sc_nw, sc_np, sc_s1, sc_no, sm_put, sm_sw, gs_i, gs_n, gs_l, gs_u_ne, gs_u_at, and_true, eq_self]; simp [va_up, hy]
  have hab : ∀ p, p < q → sc_fw τ' q p → σ.1 12 p 0 = cl ∧ ¬ σ.2.1 3 p 0 = 0 := by
    intro p hp hf
    have hl : τ'.2.2 q = sc_ab σ (nI cl) q := by
      rw [hT]; simp (decide := true) only [sc_pm, sc_ad, sc_nw, sc_np, sc_s1, sc_no, sm_put, sm_sw, gs_i, gs_n, gs_l, gs_u_ne, gs_u_at, and_true, eq_self]; simp [va_up]
    have h9 := fb_fw (m := q) (by omega) (by omega) hl hf
    have hc4 := gw_c J.2.1.1 p
    refine ⟨?_, h9.2.2⟩
    have h8 := congrArg Int32.toInt h9.2.1
    rw [nI_toInt (by omega), nI_toInt (by omega)] at h8
    omega
  have c104 : μ'.1 104 0 0 = q + 1 := by
    rw [hM]; simp (decide := true) only [sc_pm, sc_ad, sc_nw, sc_np, sc_s1, sc_no, sm_put, sm_sw, gs_i, gs_n, gs_l, gs_u_ne, gs_u_at, and_true, eq_self, e25]; try rfl
  have c105 : ∀ y, μ'.1 105 y 0 = if y = q then cl else μ.1 105 y 0 := by
    intro y; rw [hM]; simp (decide := true) only [sc_pm, sc_ad, sc_nw, sc_np, sc_s1, sc_no, sm_put, sm_sw, gs_i, gs_n, gs_l, gs_u_ne, gs_u_at, and_true, eq_self, e25]
  have c106 : ∀ y, μ'.2.1 106 y 0 = if y = q then t else μ.2.1 106 y 0 := by
    intro y; rw [hM]; simp (decide := true) only [sc_pm, sc_ad, sc_nw, sc_np, sc_s1, sc_no, sm_put, sm_sw, gs_i, gs_n, gs_l, gs_u_ne, gs_u_at, and_true, eq_self, e25]
  have c107 : ∀ y, μ'.1 107 y 0 = if y = q then u else μ.1 107 y 0 := by
    intro y; rw [hM]; simp (decide := true) only [sc_pm, sc_ad, sc_nw, sc_np, sc_s1, sc_no, sm_put, sm_sw, gs_i, gs_n, gs_l, gs_u_ne, gs_u_at, and_true, eq_self, e25]
  have c108 : ∀ y, μ'.1 108 y 0 = if y = q then v else μ.1 108 y 0 := by
    intro y; rw [hM]; simp (decide := true) only [sc_pm, sc_ad, sc_nw, sc_np, sc_s1, sc_no, sm_put, sm_sw, gs_i, gs_n, gs_l, gs_u_ne, gs_u_at, and_true, eq_self, e25]
  have c109 : ∀ y, μ'.2.1 109 y 0 = if y = q then c else μ.2.1 109 y 0 := by
    intro y; rw [hM]; simp (decide := true) only [sc_pm, sc_ad, sc_nw, sc_np, sc_s1, sc_no, sm_put, sm_sw, gs_i, gs_n, gs_l, gs_u_ne, gs_u_at, and_true, eq_self, e25]
  have c110 : ∀ y, μ'.2.1 110 y 0 = if y = q then μ.2.1 113 cl 0 else μ.2.1 110 y 0 := by
    intro y; rw [hM]; simp (decide := true) only [sc_pm, sc_ad, sc_nw, sc_np, sc_s1, sc_no, sm_put, sm_sw, gs_i, gs_n, gs_l, gs_u_ne, gs_u_at, and_true, eq_self, e25]
  have c125 : μ'.1 125 0 0 = μ.1 125 0 0 + 1 := by
    rw [hM]; simp (decide := true) only [sc_pm, sc_ad, sc_nw, sc_np, sc_s1, sc_no, sm_put, sm_sw, gs_i, gs_n, gs_l, gs_u_ne, gs_u_at, and_true, eq_self, e25]; (try grind)
  rw [← hnn] at N2 new x8 x9 x16 x17 x18 x126 x127 x128 x129 x130 x131 x132
  exact jSd J (q := q) (r := 1) (f := f) (s := s) (cl := cl) (u := u) (w := w) (w2 := v) (k := t) (c := c) n0 n3 n4 n5 i5 i6 i7 i19 i20 m31 m100 m123 m124 k101 k102 k103 k111 k112 k113 k114 k115 k116 k117 k118 k119 k120 k121 k122 k133 hqq hq4 N1 N2 (Or.inl ⟨hfe, rfl⟩) o12 o13 o14 b0 b1 b2 b3 b4 p6 p7 p8 p9 p10 p11 p12 p13 p14 p15 x8 x9 x16 x17 x18 x126 x127 x128 x129 x130 x131 x132 new hfs hk hcl ll hab c104 c105 c106 c107 c108 c109 c110 hw.symm c125 GV GW
set_option maxHeartbeats 8000000 in
set_option maxRecDepth 100000 in
theorem sn_two {σ μ : gs_T} (J : jj_J σ μ) {f s cl u v w : Nat} {x t a b c : Int32} (hq4 : σ.1 1 0 0 < 40) (hx : x.toNatClampNeg = cl) (ha : a.toNatClampNeg = u) (hbb : b.toNatClampNeg = v) (hw : (if t = 0 then u else v) = w) {A1 A2 : Nat} (hfe : f < s) (hfs : (f = u % σ.1 0 0 0 ∧ s = w % σ.1 0 0 0) ∨ (f = w % σ.1 0 0 0 ∧ s = u % σ.1 0 0 0)) (hk : t = 0 ∨ t = 1 ∨ t = 2 ∨ t = 3) (hcl : cl < 4) (GV : gv_V (sm_put (sm_put (sm_sw μ x t a b c) 0 (σ.1 1 0 0) 0 f (-1)) 0 (σ.1 1 0 0) 0 s (-1))) (GW : gw_W (gs_n (gs_n (gs_n (sc_ad (sc_nw (sc_np (sc_nw (gs_n (sc_ad (sc_nw (sc_np (sc_nw (sc_s1 σ cl t u v c) 11) f (σ.1 1 0 0)) 4) (σ.1 2 0 0) A1 0 (-1) f (σ.1 1 0 0) 0) 2 0 0 ((σ.1 2 0 0) + 1)) 11) s (σ.1 1 0 0)) 4) (σ.1 2 0 0 + 1) A2 0 (-1) s (σ.1 1 0 0) 0) 2 0 0 ((σ.1 2 0 0 + 1) + 1)) 7 f (σ.1 1 0 0) (s + 1)) 7 s (σ.1 1 0 0) (f + 1))) : jj_J (gs_n (gs_n (gs_n (sc_ad (sc_nw (sc_np (sc_nw (gs_n (sc_ad (sc_nw (sc_np (sc_nw (sc_s1 σ cl t u v c) 11) f (σ.1 1 0 0)) 4) (σ.1 2 0 0) A1 0 (-1) f (σ.1 1 0 0) 0) 2 0 0 ((σ.1 2 0 0) + 1)) 11) s (σ.1 1 0 0)) 4) (σ.1 2 0 0 + 1) A2 0 (-1) s (σ.1 1 0 0) 0) 2 0 0 ((σ.1 2 0 0 + 1) + 1)) 7 f (σ.1 1 0 0) (s + 1)) 7 s (σ.1 1 0 0) (f + 1)) (sm_put (sm_put (sm_sw μ x t a b c) 0 (σ.1 1 0 0) 0 f (-1)) 0 (σ.1 1 0 0) 0 s (-1)) := by
  obtain ⟨τ', hT⟩ : ∃ z, z = (gs_n (gs_n (gs_n (sc_ad (sc_nw (sc_np (sc_nw (gs_n (sc_ad (sc_nw (sc_np (sc_nw (sc_s1 σ cl t u v c) 11) f (σ.1 1 0 0)) 4) (σ.1 2 0 0) A1 0 (-1) f (σ.1 1 0 0) 0) 2 0 0 ((σ.1 2 0 0) + 1)) 11) s (σ.1 1 0 0)) 4) (σ.1 2 0 0 + 1) A2 0 (-1) s (σ.1 1 0 0) 0) 2 0 0 ((σ.1 2 0 0 + 1) + 1)) 7 f (σ.1 1 0 0) (s + 1)) 7 s (σ.1 1 0 0) (f + 1)) := ⟨_, rfl⟩
  obtain ⟨μ', hM⟩ : ∃ z, z = (sm_put (sm_put (sm_sw μ x t a b c) 0 (σ.1 1 0 0) 0 f (-1)) 0 (σ.1 1 0 0) 0 s (-1)) := ⟨_, rfl⟩
  rw [← hT] at GW ⊢
  rw [← hM] at GV ⊢
  have e4 : μ.1 104 0 0 = σ.1 1 0 0 := J.1.1.2.1
  have e25 : μ.1 125 0 0 = σ.1 2 0 0 := J.1.1.2.2.1
  rw [sm_sw, e4, hx, ha, hbb] at hM
  rw [sc_s1, hw] at hT
  generalize hqq : σ.1 1 0 0 = q at *
  generalize hnn : σ.1 2 0 0 = N at *
  have n0 : τ'.1 0 = σ.1 0 := by
    rw [hT]; simp (decide := true) only [sc_pm, sc_ad, sc_nw, sc_np, sc_s1, sc_no, sm_put, sm_sw, gs_i, gs_n, gs_l, gs_u_ne, gs_u_at, and_true, eq_self]
  have n3 : τ'.1 3 = σ.1 3 := by
    rw [hT]; simp (decide := true) only [sc_pm, sc_ad, sc_nw, sc_np, sc_s1, sc_no, sm_put, sm_sw, gs_i, gs_n, gs_l, gs_u_ne, gs_u_at, and_true, eq_self]
  have n4 : τ'.1 4 = σ.1 4 := by
    rw [hT]; simp (decide := true) only [sc_pm, sc_ad, sc_nw, sc_np, sc_s1, sc_no, sm_put, sm_sw, gs_i, gs_n, gs_l, gs_u_ne, gs_u_at, and_true, eq_self]
  have n5 : τ'.1 5 = σ.1 5 := by
    rw [hT]; simp (decide := true) only [sc_pm, sc_ad, sc_nw, sc_np, sc_s1, sc_no, sm_put, sm_sw, gs_i, gs_n, gs_l, gs_u_ne, gs_u_at, and_true, eq_self]
  have i5 : τ'.2.1 5 = σ.2.1 5 := by
    rw [hT]; simp (decide := true) only [sc_pm, sc_ad, sc_nw, sc_np, sc_s1, sc_no, sm_put, sm_sw, gs_i, gs_n, gs_l, gs_u_ne, gs_u_at, and_true, eq_self]
  have i6 : τ'.2.1 6 = σ.2.1 6 := by
    rw [hT]; simp (decide := true) only [sc_pm, sc_ad, sc_nw, sc_np, sc_s1, sc_no, sm_put, sm_sw, gs_i, gs_n, gs_l, gs_u_ne, gs_u_at, and_true, eq_self]
  have i7 : τ'.2.1 7 = σ.2.1 7 := by
    rw [hT]; simp (decide := true) only [sc_pm, sc_ad, sc_nw, sc_np, sc_s1, sc_no, sm_put, sm_sw, gs_i, gs_n, gs_l, gs_u_ne, gs_u_at, and_true, eq_self]
  have i19 : τ'.2.1 19 = σ.2.1 19 := by
    rw [hT]; simp (decide := true) only [sc_pm, sc_ad, sc_nw, sc_np, sc_s1, sc_no, sm_put, sm_sw, gs_i, gs_n, gs_l, gs_u_ne, gs_u_at, and_true, eq_self]
  have i20 : τ'.2.1 20 = σ.2.1 20 := by
    rw [hT]; simp (decide := true) only [sc_pm, sc_ad, sc_nw, sc_np, sc_s1, sc_no, sm_put, sm_sw, gs_i, gs_n, gs_l, gs_u_ne, gs_u_at, and_true, eq_self]
  have m31 : μ'.1 31 = μ.1 31 := by
    rw [hM]; simp (decide := true) only [sc_pm, sc_ad, sc_nw, sc_np, sc_s1, sc_no, sm_put, sm_sw, gs_i, gs_n, gs_l, gs_u_ne, gs_u_at, and_true, eq_self, e25]
  have m100 : μ'.1 100 = μ.1 100 := by
    rw [hM]; simp (decide := true) only [sc_pm, sc_ad, sc_nw, sc_np, sc_s1, sc_no, sm_put, sm_sw, gs_i, gs_n, gs_l, gs_u_ne, gs_u_at, and_true, eq_self, e25]
  have m123 : μ'.1 123 = μ.1 123 := by
    rw [hM]; simp (decide := true) only [sc_pm, sc_ad, sc_nw, sc_np, sc_s1, sc_no, sm_put, sm_sw, gs_i, gs_n, gs_l, gs_u_ne, gs_u_at, and_true, eq_self, e25]
  have m124 : μ'.1 124 = μ.1 124 := by
    rw [hM]; simp (decide := true) only [sc_pm, sc_ad, sc_nw, sc_np, sc_s1, sc_no, sm_put, sm_sw, gs_i, gs_n, gs_l, gs_u_ne, gs_u_at, and_true, eq_self, e25]
  have k101 : μ'.2.1 101 = μ.2.1 101 := by
    rw [hM]; simp (decide := true) only [sc_pm, sc_ad, sc_nw, sc_np, sc_s1, sc_no, sm_put, sm_sw, gs_i, gs_n, gs_l, gs_u_ne, gs_u_at, and_true, eq_self, e25]
  have k102 : μ'.2.1 102 = μ.2.1 102 := by
    rw [hM]; simp (decide := true) only [sc_pm, sc_ad, sc_nw, sc_np, sc_s1, sc_no, sm_put, sm_sw, gs_i, gs_n, gs_l, gs_u_ne, gs_u_at, and_true, eq_self, e25]
  have k103 : μ'.2.1 103 = μ.2.1 103 := by
    rw [hM]; simp (decide := true) only [sc_pm, sc_ad, sc_nw, sc_np, sc_s1, sc_no, sm_put, sm_sw, gs_i, gs_n, gs_l, gs_u_ne, gs_u_at, and_true, eq_self, e25]
  have k111 : μ'.2.1 111 = μ.2.1 111 := by
    rw [hM]; simp (decide := true) only [sc_pm, sc_ad, sc_nw, sc_np, sc_s1, sc_no, sm_put, sm_sw, gs_i, gs_n, gs_l, gs_u_ne, gs_u_at, and_true, eq_self, e25]
  have k112 : μ'.2.1 112 = μ.2.1 112 := by
    rw [hM]; simp (decide := true) only [sc_pm, sc_ad, sc_nw, sc_np, sc_s1, sc_no, sm_put, sm_sw, gs_i, gs_n, gs_l, gs_u_ne, gs_u_at, and_true, eq_self, e25]
  have k113 : μ'.2.1 113 = μ.2.1 113 := by
    rw [hM]; simp (decide := true) only [sc_pm, sc_ad, sc_nw, sc_np, sc_s1, sc_no, sm_put, sm_sw, gs_i, gs_n, gs_l, gs_u_ne, gs_u_at, and_true, eq_self, e25]
  have k114 : μ'.2.1 114 = μ.2.1 114 := by
    rw [hM]; simp (decide := true) only [sc_pm, sc_ad, sc_nw, sc_np, sc_s1, sc_no, sm_put, sm_sw, gs_i, gs_n, gs_l, gs_u_ne, gs_u_at, and_true, eq_self, e25]
  have k115 : μ'.2.1 115 = μ.2.1 115 := by
    rw [hM]; simp (decide := true) only [sc_pm, sc_ad, sc_nw, sc_np, sc_s1, sc_no, sm_put, sm_sw, gs_i, gs_n, gs_l, gs_u_ne, gs_u_at, and_true, eq_self, e25]
  have k116 : μ'.2.1 116 = μ.2.1 116 := by
    rw [hM]; simp (decide := true) only [sc_pm, sc_ad, sc_nw, sc_np, sc_s1, sc_no, sm_put, sm_sw, gs_i, gs_n, gs_l, gs_u_ne, gs_u_at, and_true, eq_self, e25]
  have k117 : μ'.2.1 117 = μ.2.1 117 := by
    rw [hM]; simp (decide := true) only [sc_pm, sc_ad, sc_nw, sc_np, sc_s1, sc_no, sm_put, sm_sw, gs_i, gs_n, gs_l, gs_u_ne, gs_u_at, and_true, eq_self, e25]
  have k118 : μ'.2.1 118 = μ.2.1 118 := by
    rw [hM]; simp (decide := true) only [sc_pm, sc_ad, sc_nw, sc_np, sc_s1, sc_no, sm_put, sm_sw, gs_i, gs_n, gs_l, gs_u_ne, gs_u_at, and_true, eq_self, e25]
  have k119 : μ'.2.1 119 = μ.2.1 119 := by
    rw [hM]; simp (decide := true) only [sc_pm, sc_ad, sc_nw, sc_np, sc_s1, sc_no, sm_put, sm_sw, gs_i, gs_n, gs_l, gs_u_ne, gs_u_at, and_true, eq_self, e25]
  have k120 : μ'.2.1 120 = μ.2.1 120 := by
    rw [hM]; simp (decide := true) only [sc_pm, sc_ad, sc_nw, sc_np, sc_s1, sc_no, sm_put, sm_sw, gs_i, gs_n, gs_l, gs_u_ne, gs_u_at, and_true, eq_self, e25]
  have k121 : μ'.2.1 121 = μ.2.1 121 := by
    rw [hM]; simp (decide := true) only [sc_pm, sc_ad, sc_nw, sc_np, sc_s1, sc_no, sm_put, sm_sw, gs_i, gs_n, gs_l, gs_u_ne, gs_u_at, and_true, eq_self, e25]
  have k122 : μ'.2.1 122 = μ.2.1 122 := by
    rw [hM]; simp (decide := true) only [sc_pm, sc_ad, sc_nw, sc_np, sc_s1, sc_no, sm_put, sm_sw, gs_i, gs_n, gs_l, gs_u_ne, gs_u_at, and_true, eq_self, e25]
  have k133 : μ'.2.1 133 = μ.2.1 133 := by
    rw [hM]; simp (decide := true) only [sc_pm, sc_ad, sc_nw, sc_np, sc_s1, sc_no, sm_put, sm_sw, gs_i, gs_n, gs_l, gs_u_ne, gs_u_at, and_true, eq_self, e25]
  have N1 : τ'.1 1 0 0 = q + 1 := by
    rw [hT]; simp (decide := true) only [sc_pm, sc_ad, sc_nw, sc_np, sc_s1, sc_no, sm_put, sm_sw, gs_i, gs_n, gs_l, gs_u_ne, gs_u_at, and_true, eq_self]; try rfl
  have N2 : τ'.1 2 0 0 = N + 2 := by
    rw [hT]; simp (decide := true) only [sc_pm, sc_ad, sc_nw, sc_np, sc_s1, sc_no, sm_put, sm_sw, gs_i, gs_n, gs_l, gs_u_ne, gs_u_at, and_true, eq_self]; try simp [hnn]
  have o12 : ∀ y, τ'.1 12 y 0 = if y = q then cl else σ.1 12 y 0 := by
    intro y; rw [hT]; simp (decide := true) only [sc_pm, sc_ad, sc_nw, sc_np, sc_s1, sc_no, sm_put, sm_sw, gs_i, gs_n, gs_l, gs_u_ne, gs_u_at, and_true, eq_self]
  have o13 : ∀ y, τ'.1 13 y 0 = if y = q then u else σ.1 13 y 0 := by
    intro y; rw [hT]; simp (decide := true) only [sc_pm, sc_ad, sc_nw, sc_np, sc_s1, sc_no, sm_put, sm_sw, gs_i, gs_n, gs_l, gs_u_ne, gs_u_at, and_true, eq_self]
  have o14 : ∀ y, τ'.1 14 y 0 = if y = q then w else σ.1 14 y 0 := by
    intro y; rw [hT]; simp (decide := true) only [sc_pm, sc_ad, sc_nw, sc_np, sc_s1, sc_no, sm_put, sm_sw, gs_i, gs_n, gs_l, gs_u_ne, gs_u_at, and_true, eq_self]
  have b0 : ∀ y, τ'.2.1 0 y 0 = if y = q then t else σ.2.1 0 y 0 := by
    intro y; rw [hT]; simp (decide := true) only [sc_pm, sc_ad, sc_nw, sc_np, sc_s1, sc_no, sm_put, sm_sw, gs_i, gs_n, gs_l, gs_u_ne, gs_u_at, and_true, eq_self]
  have b1 : ∀ y, τ'.2.1 1 y 0 = if y = q then c else σ.2.1 1 y 0 := by
    intro y; rw [hT]; simp (decide := true) only [sc_pm, sc_ad, sc_nw, sc_np, sc_s1, sc_no, sm_put, sm_sw, gs_i, gs_n, gs_l, gs_u_ne, gs_u_at, and_true, eq_self]
  have b2 : ∀ y, τ'.2.1 2 y 0 = if y = q then σ.2.1 20 cl 0 else σ.2.1 2 y 0 := by
    intro y; rw [hT]; simp (decide := true) only [sc_pm, sc_ad, sc_nw, sc_np, sc_s1, sc_no, sm_put, sm_sw, gs_i, gs_n, gs_l, gs_u_ne, gs_u_at, and_true, eq_self]
  have b3 : ∀ y, τ'.2.1 3 y 0 = if y = q then 0 else σ.2.1 3 y 0 := by
    intro y; rw [hT]; simp (decide := true) only [sc_pm, sc_ad, sc_nw, sc_np, sc_s1, sc_no, sm_put, sm_sw, gs_i, gs_n, gs_l, gs_u_ne, gs_u_at, and_true, eq_self]
  have b4 : ∀ y, τ'.2.1 4 y 0 = if y = q then 0 else σ.2.1 4 y 0 := by
    intro y; rw [hT]; simp (decide := true) only [sc_pm, sc_ad, sc_nw, sc_np, sc_s1, sc_no, sm_put, sm_sw, gs_i, gs_n, gs_l, gs_u_ne, gs_u_at, and_true, eq_self]
  have p6 : ∀ x y, τ'.1 6 x y = if (x = f ∨ x = s) ∧ y = q then 1 else σ.1 6 x y := by
    intro x y; rw [hT]; simp (decide := true) only [sc_pm, sc_ad, sc_nw, sc_np, sc_s1, sc_no, sm_put, sm_sw, gs_i, gs_n, gs_l, gs_u_ne, gs_u_at, and_true, eq_self]; (try grind)
  have p7 : ∀ x y, τ'.1 7 x y = if (x = f ∨ x = s) ∧ y = q then (if f = s then 0 else if x = f then s + 1 else f + 1) else σ.1 7 x y := by
    intro x y; rw [hT]; simp (decide := true) only [sc_pm, sc_ad, sc_nw, sc_np, sc_s1, sc_no, sm_put, sm_sw, gs_i, gs_n, gs_l, gs_u_ne, gs_u_at, and_true, eq_self]; (try grind)
  have p8 : ∀ x y, τ'.2.1 8 x y = if (x = f ∨ x = s) ∧ y = q then -1 else σ.2.1 8 x y := by
    intro x y; rw [hT]; simp (decide := true) only [sc_pm, sc_ad, sc_nw, sc_np, sc_s1, sc_no, sm_put, sm_sw, gs_i, gs_n, gs_l, gs_u_ne, gs_u_at, and_true, eq_self]; (try grind)
  have p9 : ∀ x y, τ'.2.1 9 x y = if (x = f ∨ x = s) ∧ y = q then -1 else σ.2.1 9 x y := by
    intro x y; rw [hT]; simp (decide := true) only [sc_pm, sc_ad, sc_nw, sc_np, sc_s1, sc_no, sm_put, sm_sw, gs_i, gs_n, gs_l, gs_u_ne, gs_u_at, and_true, eq_self]; (try grind)
  have p10 : ∀ x y, τ'.2.1 10 x y = if (x = f ∨ x = s) ∧ y = q then -1 else σ.2.1 10 x y := by
    intro x y; rw [hT]; simp (decide := true) only [sc_pm, sc_ad, sc_nw, sc_np, sc_s1, sc_no, sm_put, sm_sw, gs_i, gs_n, gs_l, gs_u_ne, gs_u_at, and_true, eq_self]; (try grind)
  have p11 : ∀ x y, τ'.2.1 11 x y = if (x = f ∨ x = s) ∧ y = q then 0 else σ.2.1 11 x y := by
    intro x y; rw [hT]; simp (decide := true) only [sc_pm, sc_ad, sc_nw, sc_np, sc_s1, sc_no, sm_put, sm_sw, gs_i, gs_n, gs_l, gs_u_ne, gs_u_at, and_true, eq_self]; (try grind)
  have p12 : ∀ x y, τ'.2.1 12 x y = if (x = f ∨ x = s) ∧ y = q then 0 else σ.2.1 12 x y := by
    intro x y; rw [hT]; simp (decide := true) only [sc_pm, sc_ad, sc_nw, sc_np, sc_s1, sc_no, sm_put, sm_sw, gs_i, gs_n, gs_l, gs_u_ne, gs_u_at, and_true, eq_self]; (try grind)
  have p13 : ∀ x y, τ'.2.1 13 x y = if (x = f ∨ x = s) ∧ y = q then 0 else σ.2.1 13 x y := by
    intro x y; rw [hT]; simp (decide := true) only [sc_pm, sc_ad, sc_nw, sc_np, sc_s1, sc_no, sm_put, sm_sw, gs_i, gs_n, gs_l, gs_u_ne, gs_u_at, and_true, eq_self]; (try grind)
  have p14 : ∀ x y, τ'.2.1 14 x y = if (x = f ∨ x = s) ∧ y = q then 0 else σ.2.1 14 x y := by
    intro x y; rw [hT]; simp (decide := true) only [sc_pm, sc_ad, sc_nw, sc_np, sc_s1, sc_no, sm_put, sm_sw, gs_i, gs_n, gs_l, gs_u_ne, gs_u_at, and_true, eq_self]; (try grind)
  have p15 : ∀ x y, τ'.2.1 15 x y = if (x = f ∨ x = s) ∧ y = q then 0 else σ.2.1 15 x y := by
    intro x y; rw [hT]; simp (decide := true) only [sc_pm, sc_ad, sc_nw, sc_np, sc_s1, sc_no, sm_put, sm_sw, gs_i, gs_n, gs_l, gs_u_ne, gs_u_at, and_true, eq_self]; (try grind)
  have x8 : ∀ i, i < N → τ'.1 8 i 0 = σ.1 8 i 0 := by
    intro i hi; rw [hT]; simp (decide := true) only [sc_pm, sc_ad, sc_nw, sc_np, sc_s1, sc_no, sm_put, sm_sw, gs_i, gs_n, gs_l, gs_u_ne, gs_u_at, and_true, eq_self]; (try simp only [hnn]); (try grind)
  have x9 : ∀ i, i < N → τ'.1 9 i 0 = σ.1 9 i 0 := by
    intro i hi; rw [hT]; simp (decide := true) only [sc_pm, sc_ad, sc_nw, sc_np, sc_s1, sc_no, sm_put, sm_sw, gs_i, gs_n, gs_l, gs_u_ne, gs_u_at, and_true, eq_self]; (try simp only [hnn]); (try grind)
  have x16 : ∀ i, i < N → τ'.2.1 16 i 0 = σ.2.1 16 i 0 := by
    intro i hi; rw [hT]; simp (decide := true) only [sc_pm, sc_ad, sc_nw, sc_np, sc_s1, sc_no, sm_put, sm_sw, gs_i, gs_n, gs_l, gs_u_ne, gs_u_at, and_true, eq_self]; (try simp only [hnn]); (try grind)
  have x17 : ∀ i, i < N → τ'.2.1 17 i 0 = σ.2.1 17 i 0 := by
    intro i hi; rw [hT]; simp (decide := true) only [sc_pm, sc_ad, sc_nw, sc_np, sc_s1, sc_no, sm_put, sm_sw, gs_i, gs_n, gs_l, gs_u_ne, gs_u_at, and_true, eq_self]; (try simp only [hnn]); (try grind)
  have x18 : ∀ i, i < N → τ'.2.1 18 i 0 = σ.2.1 18 i 0 := by
    intro i hi; rw [hT]; simp (decide := true) only [sc_pm, sc_ad, sc_nw, sc_np, sc_s1, sc_no, sm_put, sm_sw, gs_i, gs_n, gs_l, gs_u_ne, gs_u_at, and_true, eq_self]; (try simp only [hnn]); (try grind)
  have x126 : ∀ i, i < N → μ'.2.1 126 i 0 = μ.2.1 126 i 0 := by
    intro i hi; rw [hM]; simp (decide := true) only [sc_pm, sc_ad, sc_nw, sc_np, sc_s1, sc_no, sm_put, sm_sw, gs_i, gs_n, gs_l, gs_u_ne, gs_u_at, and_true, eq_self, e25]; (try grind)
  have x127 : ∀ i, i < N → μ'.1 127 i 0 = μ.1 127 i 0 := by
    intro i hi; rw [hM]; simp (decide := true) only [sc_pm, sc_ad, sc_nw, sc_np, sc_s1, sc_no, sm_put, sm_sw, gs_i, gs_n, gs_l, gs_u_ne, gs_u_at, and_true, eq_self, e25]; (try grind)
  have x128 : ∀ i, i < N → μ'.1 128 i 0 = μ.1 128 i 0 := by
    intro i hi; rw [hM]; simp (decide := true) only [sc_pm, sc_ad, sc_nw, sc_np, sc_s1, sc_no, sm_put, sm_sw, gs_i, gs_n, gs_l, gs_u_ne, gs_u_at, and_true, eq_self, e25]; (try grind)
  have x129 : ∀ i, i < N → μ'.1 129 i 0 = μ.1 129 i 0 := by
    intro i hi; rw [hM]; simp (decide := true) only [sc_pm, sc_ad, sc_nw, sc_np, sc_s1, sc_no, sm_put, sm_sw, gs_i, gs_n, gs_l, gs_u_ne, gs_u_at, and_true, eq_self, e25]; (try grind)
  have x130 : ∀ i, i < N → μ'.2.1 130 i 0 = μ.2.1 130 i 0 := by
    intro i hi; rw [hM]; simp (decide := true) only [sc_pm, sc_ad, sc_nw, sc_np, sc_s1, sc_no, sm_put, sm_sw, gs_i, gs_n, gs_l, gs_u_ne, gs_u_at, and_true, eq_self, e25]; (try grind)
  have x131 : ∀ i, i < N → μ'.2.1 131 i 0 = μ.2.1 131 i 0 := by
    intro i hi; rw [hM]; simp (decide := true) only [sc_pm, sc_ad, sc_nw, sc_np, sc_s1, sc_no, sm_put, sm_sw, gs_i, gs_n, gs_l, gs_u_ne, gs_u_at, and_true, eq_self, e25]; (try grind)
  have x132 : ∀ i, i < N → μ'.2.1 132 i 0 = μ.2.1 132 i 0 := by
    intro i hi; rw [hM]; simp (decide := true) only [sc_pm, sc_ad, sc_nw, sc_np, sc_s1, sc_no, sm_put, sm_sw, gs_i, gs_n, gs_l, gs_u_ne, gs_u_at, and_true, eq_self, e25]; (try grind)
  have new : ∀ i, N ≤ i → i < N + 2 → τ'.2.1 16 i 0 = 0 ∧ τ'.2.1 17 i 0 = -1 ∧ τ'.1 9 i 0 = q ∧ μ'.2.1 126 i 0 = 0 ∧ μ'.1 127 i 0 = q ∧ μ'.1 128 i 0 = 0 ∧ μ'.1 129 i 0 = τ'.1 8 i 0 ∧ μ'.2.1 130 i 0 = -1 := by
    intro i h1 h2; refine ⟨?_, ?_, ?_, ?_, ?_, ?_, ?_, ?_⟩
    · rw [hT]; simp (decide := true) only [sc_pm, sc_ad, sc_nw, sc_np, sc_s1, sc_no, sm_put, sm_sw, gs_i, gs_n, gs_l, gs_u_ne, gs_u_at, and_true, eq_self]; (try simp only [hnn]); (try grind)
    · rw [hT]; simp (decide := true) only [sc_pm, sc_ad, sc_nw, sc_np, sc_s1, sc_no, sm_put, sm_sw, gs_i, gs_n, gs_l, gs_u_ne, gs_u_at, and_true, eq_self]; (try simp only [hnn]); (try grind)
    · rw [hT]; simp (decide := true) only [sc_pm, sc_ad, sc_nw, sc_np, sc_s1, sc_no, sm_put, sm_sw, gs_i, gs_n, gs_l, gs_u_ne, gs_u_at, and_true, eq_self]; (try simp only [hnn]); (try grind)
    · rw [hM]; simp (decide := true) only [sc_pm, sc_ad, sc_nw, sc_np, sc_s1, sc_no, sm_put, sm_sw, gs_i, gs_n, gs_l, gs_u_ne, gs_u_at, and_true, eq_self, e25]; (try simp only [hnn]); (try grind)
    · rw [hM]; simp (decide := true) only [sc_pm, sc_ad, sc_nw, sc_np, sc_s1, sc_no, sm_put, sm_sw, gs_i, gs_n, gs_l, gs_u_ne, gs_u_at, and_true, eq_self, e25]; (try simp only [hnn]); (try grind)
    · rw [hM]; simp (decide := true) only [sc_pm, sc_ad, sc_nw, sc_np, sc_s1, sc_no, sm_put, sm_sw, gs_i, gs_n, gs_l, gs_u_ne, gs_u_at, and_true, eq_self, e25]; (try simp only [hnn]); (try grind)
    · rw [hM, hT]; simp (decide := true) only [sc_pm, sc_ad, sc_nw, sc_np, sc_s1, sc_no, sm_put, sm_sw, gs_i, gs_n, gs_l, gs_u_ne, gs_u_at, and_true, eq_self, e25]; (try simp only [hnn]); (try grind)
    · rw [hM]; simp (decide := true) only [sc_pm, sc_ad, sc_nw, sc_np, sc_s1, sc_no, sm_put, sm_sw, gs_i, gs_n, gs_l, gs_u_ne, gs_u_at, and_true, eq_self, e25]; (try simp only [hnn]); (try grind)
  have ll : ∀ y, ¬ y = q → τ'.2.2 y = σ.2.2 y := by
    intro y hy; rw [hT]; simp (decide := true) only [sc_pm, sc_ad, sc_nw, sc_np, sc_s1, sc_no, sm_put, sm_sw, gs_i, gs_n, gs_l, gs_u_ne, gs_u_at, and_true, eq_self]; simp [va_up, hy]
  have hab : ∀ p, p < q → sc_fw τ' q p → σ.1 12 p 0 = cl ∧ ¬ σ.2.1 3 p 0 = 0 := by
    intro p hp hf
    have hl : τ'.2.2 q = sc_ab σ (nI cl) q := by
      rw [hT]; simp (decide := true) only [sc_pm, sc_ad, sc_nw, sc_np, sc_s1, sc_no, sm_put, sm_sw, gs_i, gs_n, gs_l, gs_u_ne, gs_u_at, and_true, eq_self]; simp [va_up]
    have h9 := fb_fw (m := q) (by omega) (by omega) hl hf
    have hc4 := gw_c J.2.1.1 p
    refine ⟨?_, h9.2.2⟩
    have h8 := congrArg Int32.toInt h9.2.1
    rw [nI_toInt (by omega), nI_toInt (by omega)] at h8
    omega
  have c104 : μ'.1 104 0 0 = q + 1 := by
    rw [hM]; simp (decide := true) only [sc_pm, sc_ad, sc_nw, sc_np, sc_s1, sc_no, sm_put, sm_sw, gs_i, gs_n, gs_l, gs_u_ne, gs_u_at, and_true, eq_self, e25]; try rfl
  have c105 : ∀ y, μ'.1 105 y 0 = if y = q then cl else μ.1 105 y 0 := by
    intro y; rw [hM]; simp (decide := true) only [sc_pm, sc_ad, sc_nw, sc_np, sc_s1, sc_no, sm_put, sm_sw, gs_i, gs_n, gs_l, gs_u_ne, gs_u_at, and_true, eq_self, e25]
  have c106 : ∀ y, μ'.2.1 106 y 0 = if y = q then t else μ.2.1 106 y 0 := by
    intro y; rw [hM]; simp (decide := true) only [sc_pm, sc_ad, sc_nw, sc_np, sc_s1, sc_no, sm_put, sm_sw, gs_i, gs_n, gs_l, gs_u_ne, gs_u_at, and_true, eq_self, e25]
  have c107 : ∀ y, μ'.1 107 y 0 = if y = q then u else μ.1 107 y 0 := by
    intro y; rw [hM]; simp (decide := true) only [sc_pm, sc_ad, sc_nw, sc_np, sc_s1, sc_no, sm_put, sm_sw, gs_i, gs_n, gs_l, gs_u_ne, gs_u_at, and_true, eq_self, e25]
  have c108 : ∀ y, μ'.1 108 y 0 = if y = q then v else μ.1 108 y 0 := by
    intro y; rw [hM]; simp (decide := true) only [sc_pm, sc_ad, sc_nw, sc_np, sc_s1, sc_no, sm_put, sm_sw, gs_i, gs_n, gs_l, gs_u_ne, gs_u_at, and_true, eq_self, e25]
  have c109 : ∀ y, μ'.2.1 109 y 0 = if y = q then c else μ.2.1 109 y 0 := by
    intro y; rw [hM]; simp (decide := true) only [sc_pm, sc_ad, sc_nw, sc_np, sc_s1, sc_no, sm_put, sm_sw, gs_i, gs_n, gs_l, gs_u_ne, gs_u_at, and_true, eq_self, e25]
  have c110 : ∀ y, μ'.2.1 110 y 0 = if y = q then μ.2.1 113 cl 0 else μ.2.1 110 y 0 := by
    intro y; rw [hM]; simp (decide := true) only [sc_pm, sc_ad, sc_nw, sc_np, sc_s1, sc_no, sm_put, sm_sw, gs_i, gs_n, gs_l, gs_u_ne, gs_u_at, and_true, eq_self, e25]
  have c125 : μ'.1 125 0 0 = μ.1 125 0 0 + 2 := by
    rw [hM]; simp (decide := true) only [sc_pm, sc_ad, sc_nw, sc_np, sc_s1, sc_no, sm_put, sm_sw, gs_i, gs_n, gs_l, gs_u_ne, gs_u_at, and_true, eq_self, e25]; (try grind)
  rw [← hnn] at N2 new x8 x9 x16 x17 x18 x126 x127 x128 x129 x130 x131 x132
  exact jSd J (q := q) (r := 2) (f := f) (s := s) (cl := cl) (u := u) (w := w) (w2 := v) (k := t) (c := c) n0 n3 n4 n5 i5 i6 i7 i19 i20 m31 m100 m123 m124 k101 k102 k103 k111 k112 k113 k114 k115 k116 k117 k118 k119 k120 k121 k122 k133 hqq hq4 N1 N2 (Or.inr ⟨hfe, rfl⟩) o12 o13 o14 b0 b1 b2 b3 b4 p6 p7 p8 p9 p10 p11 p12 p13 p14 p15 x8 x9 x16 x17 x18 x126 x127 x128 x129 x130 x131 x132 new hfs hk hcl ll hab c104 c105 c106 c107 c108 c109 c110 hw.symm c125 GV GW
