/-! pure: the start; the law -/
theorem in_n (x : Int32) : 2 ≤ gi_n x ∧ gi_n x ≤ 4 := by
  unfold gi_n
  split
  · omega
  · rename_i h1
    split
    · omega
    · rename_i h2
      rw [ti_lt, show (2 : Int32).toInt = 2 by decide] at h1
      rw [ti_lt, show (4 : Int32).toInt = 4 by decide] at h2
      have e : x.toNatClampNeg = x.toInt.toNat := rfl
      rw [e]
      omega
theorem in_g {σ : gs_T} : ∀ m, (∀ t, t ≠ 15 → t ≠ 20 → t ≠ 21 → (gi_g σ m).1 t = σ.1 t) ∧ (gi_g σ m).2 = σ.2 ∧ (∀ g, g < m → (gi_g σ m).1 15 g 0 = 1) ∧ (gi_g σ m).1 20 0 0 = σ.1 20 0 0 + 3 * m ∧ (gi_g σ m).1 21 0 0 = σ.1 21 0 0 + 87 * m := by
  intro m
  induction m with
  | zero => exact ⟨fun _ _ _ _ => rfl, rfl, fun g hg => absurd hg (Nat.not_lt_zero _), rfl, rfl⟩
  | succ m ih =>
    obtain ⟨i1, i2, i3, i4, i5⟩ := ih
    rw [gi_g]
    refine ⟨fun t h1 h2 h3 => ?_, ?_, fun g hg => ?_, ?_, ?_⟩
    · rw [← i1 t h1 h2 h3]
      simp only [sc_ng, sc_nw, gs_n, gs_u_ne h1, gs_u_ne h2, gs_u_ne h3]
    · rw [← i2]; rfl
    · have e : (sc_ng (gi_g σ m) m).1 15 g 0 = if g = m then 1 else (gi_g σ m).1 15 g 0 := by
        unfold sc_ng
        show gs_u _ 15 m 0 1 15 g 0 = _
        rw [gu_0]
        simp (decide := true) only [sc_nw, gs_n, gs_u_ne]
      rw [e]
      by_cases h : g = m
      · rw [if_pos h]
      · rw [if_neg h]; exact i3 g (by omega)
    · unfold sc_ng
      simp (decide := true) only [sc_nw, gs_n, gs_u_ne, gs_u_at, and_self, if_true]
      omega
    · unfold sc_ng
      simp (decide := true) only [sc_nw, gs_n, gs_u_ne, gs_u_at, and_self, if_true]
      omega
theorem in_s (x : Int32) (b : Nat) : (∀ t, t ≠ 15 → t ≠ 20 → t ≠ 21 → t ≠ 31 → ∀ i j, (gi_s x b).1 t i j = if t = 0 then gi_n x else if t = 100 then gi_n x else if t = 128 then 1 else 0) ∧ (∀ t, t ≠ 19 → t ≠ 103 → ∀ i j, (gi_s x b).2.1 t i j = if t = 6 then 1 else 0) ∧ (∀ g, g < gi_n x → (gi_s x b).1 15 g 0 = 1) ∧ (gi_s x b).1 31 0 0 = 1 ∧ (∀ k, k < 16 → (gi_s x b).2.1 19 k 0 = 100 ∧ (gi_s x b).2.1 103 k 0 = 100) ∧ (gi_s x b).1 20 0 0 = b + 40 + 3 * gi_n x ∧ (gi_s x b).1 21 0 0 = 7049 + 88 * gi_n x := by
  obtain ⟨g1, g2, g3, g4, g5⟩ := in_g (σ := gi_0 (gi_n x) (b + 1 + 8) (9 + (334 + gi_n x))) (gi_n x)
  have e1 : (gi_s x b).1 = (sc_ax (sc_nw (gi_1 x (b + 1) 9) 34)).1 := by rw [gi_s, gi_2, sc_fl_1]
  have e2 : (gi_1 x (b + 1) 9).1 = (gi_g (gi_0 (gi_n x) (b + 1 + 8) (9 + (334 + gi_n x))) (gi_n x)).1 := by rw [gi_1, sc_fl_1]
  have e3 : ∀ t, t ≠ 103 → (gi_s x b).2.1 t = (gi_1 x (b + 1) 9).2.1 t := fun t ht => by rw [gi_s, gi_2, sc_fl_i ht]; rfl
  refine ⟨fun t h1 h2 h3 h4 i j => ?_, fun t h1 h2 i j => ?_, fun g hg => ?_, ?_, fun k hk => ⟨?_, ?_⟩, ?_, ?_⟩
  · have : (gi_s x b).1 t = (gi_0 (gi_n x) (b + 1 + 8) (9 + (334 + gi_n x))).1 t := by
      rw [e1, ← g1 t h1 h2 h3, ← e2]
      simp only [sc_ax, sc_nw, gs_n, gs_u_ne h2, gs_u_ne h3, gs_u_ne h4]
    rw [this]
    show (if t = 0 then gi_n x else if t = 100 then gi_n x else if t = 20 then _ else if t = 21 then _ else if t = 128 then 1 else 0) = _
    rw [if_neg h2, if_neg h3]
  · rw [e3 t h2, gi_1, sc_fl_i h1, g2]
    rfl
  · rw [e1]
    have : (sc_ax (sc_nw (gi_1 x (b + 1) 9) 34)).1 15 = (gi_1 x (b + 1) 9).1 15 := by
      simp (decide := true) only [sc_ax, sc_nw, gs_n, gs_u_ne]
    rw [this, e2]
    exact g3 g hg
  · rw [e1, sc_ax]; exact gn_at
  · rw [e3 19 (by decide), gi_1]; exact fl_at hk
  · rw [gi_s, gi_2]; exact fl_at hk
  · have : (sc_ax (sc_nw (gi_1 x (b + 1) 9) 34)).1 20 0 0 = (gi_1 x (b + 1) 9).1 20 0 0 + 1 + 30 := by
      simp (decide := true) only [sc_ax, sc_nw, gs_n, gs_u_ne, gs_u_at, and_self, if_true]
    rw [e1, this, e2, g4]
    show b + 1 + 8 + 3 * gi_n x + 1 + 30 = _
    omega
  · have : (sc_ax (sc_nw (gi_1 x (b + 1) 9) 34)).1 21 0 0 = (gi_1 x (b + 1) 9).1 21 0 0 + 34 + 6672 := by
      simp (decide := true) only [sc_ax, sc_nw, gs_n, gs_u_ne, gs_u_at, and_self, if_true]
    rw [e1, this, e2, g5]
    show 9 + (334 + gi_n x) + 87 * gi_n x + 34 + 6672 = _
    omega
theorem cn_no {p : Nat → Prop} [DecidablePred p] {m : Nat} (h : ∀ i, i < m → ¬ p i) : ti_cn p m = 0 := by
  induction m with
  | zero => rfl
  | succ m ih => rw [ti_cn, ih (fun i hi => h i (by omega)), if_neg (h m (by omega))]
theorem su_no {f : Nat → Nat} {m : Nat} (h : ∀ i, i < m → f i = 0) : ti_su f m = 0 := by
  induction m with
  | zero => rfl
  | succ m ih => rw [ti_su, ih (fun i hi => h i (by omega)), h m (by omega)]
set_option maxHeartbeats 1000000 in
theorem in_J (x : Int32) (b : Nat) : jj_J (gi_s x b) (gi_s x b) := by
  obtain ⟨s1, s2, s3, s4, s5, s6, s7⟩ := in_s x b
  have hn := in_n x
  generalize gi_s x b = σ at *
  have a0 : σ.1 0 0 0 = gi_n x := by rw [s1 0 (by decide) (by decide) (by decide) (by decide)]; rfl
  have a100 : σ.1 100 0 0 = gi_n x := by rw [s1 100 (by decide) (by decide) (by decide) (by decide)]; rfl
  have z : ∀ t, t ≠ 15 → t ≠ 20 → t ≠ 21 → t ≠ 31 → t ≠ 0 → t ≠ 100 → t ≠ 128 → ∀ i j, σ.1 t i j = 0 := fun t h1 h2 h3 h4 h5 h6 h7 i j => by
    rw [s1 t h1 h2 h3 h4, if_neg h5, if_neg h6, if_neg h7]
  have zi : ∀ t, t ≠ 19 → t ≠ 103 → t ≠ 6 → ∀ i j, σ.2.1 t i j = 0 := fun t h1 h2 h3 i j => by rw [s2 t h1 h2, if_neg h3]
  have z1 : σ.1 1 0 0 = 0 := z 1 (by decide) (by decide) (by decide) (by decide) (by decide) (by decide) (by decide) 0 0
  have z2 : σ.1 2 0 0 = 0 := z 2 (by decide) (by decide) (by decide) (by decide) (by decide) (by decide) (by decide) 0 0
  have z3 : ∀ g, σ.1 3 g 0 = 0 := fun g => z 3 (by decide) (by decide) (by decide) (by decide) (by decide) (by decide) (by decide) g 0
  have z4 : ∀ g, σ.1 4 g 0 = 0 := fun g => z 4 (by decide) (by decide) (by decide) (by decide) (by decide) (by decide) (by decide) g 0
  have z5 : ∀ g k, σ.1 5 g k = 0 := z 5 (by decide) (by decide) (by decide) (by decide) (by decide) (by decide) (by decide)
  have z6 : ∀ g y, ¬ σ.1 6 g y = 1 := fun g y h => by rw [z 6 (by decide) (by decide) (by decide) (by decide) (by decide) (by decide) (by decide)] at h; omega
  have z10 : ∀ i, ¬ σ.1 10 i 0 = 1 := fun i h => by rw [z 10 (by decide) (by decide) (by decide) (by decide) (by decide) (by decide) (by decide)] at h; omega
  have GV : gv_V σ := by
    refine ⟨by omega, fun f i j => ?_⟩
    rw [a100]
    by_cases h128 : f = 128
    · rw [h128, s1 128 (by decide) (by decide) (by decide) (by decide)]
      show 1 ≤ gi_n x
      omega
    · unfold gv_b
      split
      · rw [z _ (by decide) (by decide) (by decide) (by decide) (by decide) (by decide) (by decide)]; omega
      · rw [z _ (by decide) (by decide) (by decide) (by decide) (by decide) (by decide) (by decide)]; omega
      · rw [z _ (by decide) (by decide) (by decide) (by decide) (by decide) (by decide) (by decide)]; omega
      · rw [z _ (by decide) (by decide) (by decide) (by decide) (by decide) (by decide) (by decide)]; omega
      · rw [z _ (by decide) (by decide) (by decide) (by decide) (by decide) (by decide) (by decide)]; omega
      · rw [z _ (by decide) (by decide) (by decide) (by decide) (by decide) (by decide) (by decide)]; omega
      · rw [z _ (by decide) (by decide) (by decide) (by decide) (by decide) (by decide) (by decide)]; omega
      · exact absurd rfl h128
      · rw [z _ (by decide) (by decide) (by decide) (by decide) (by decide) (by decide) (by decide)]; omega
      · trivial
  have GW : gw_W σ := by
    refine ⟨⟨by omega, by omega, by omega, by omega⟩, fun g hg => s3 g (by omega), fun y hy => by omega, fun i hi => by omega, fun i hi => absurd hi (z10 i), fun g y h => absurd h (z6 g y), fun g y g' h => absurd h (z6 g y), fun g k y h => by rw [z5] at h; omega, fun g k _ hk => by rw [z3] at hk; omega, fun g => by rw [z3]; omega, fun g => by rw [z4]; omega, fun y => ?_, fun y => ?_, fun y => ?_⟩
    · rw [z 12 (by decide) (by decide) (by decide) (by decide) (by decide) (by decide) (by decide)]; omega
    · rw [z 13 (by decide) (by decide) (by decide) (by decide) (by decide) (by decide) (by decide)]; omega
    · rw [z 14 (by decide) (by decide) (by decide) (by decide) (by decide) (by decide) (by decide)]; omega
  have t0 : (0 : Int32).toInt = 0 := ti_0
  have i5 : (σ.2.1 5 0 0).toInt = 0 := by rw [zi 5 (by decide) (by decide) (by decide)]; exact t0
  refine ⟨⟨?_, ?_, ?_, ?_, ?_, ?_, ?_, ?_⟩, ⟨GW, ?_, ?_, ?_, ?_, ?_, ?_, ?_⟩, fun _ _ _ => 100, ?_⟩
  · refine ⟨by rw [a0, a100], ?_, ?_, ?_, GV, s4⟩
    · rw [z1]; exact z 104 (by decide) (by decide) (by decide) (by decide) (by decide) (by decide) (by decide) 0 0
    · rw [z2]; exact z 125 (by decide) (by decide) (by decide) (by decide) (by decide) (by decide) (by decide) 0 0
    · rw [zi 133 (by decide) (by decide) (by decide), zi 5 (by decide) (by decide) (by decide)]
  · exact ⟨fun y hy => by omega, fun y _ _ => zi 111 (by decide) (by decide) (by decide) y 0⟩
  · intro g _
    rw [zi 101 (by decide) (by decide) (by decide), zi 7 (by decide) (by decide) (by decide), zi 102 (by decide) (by decide) (by decide), s2 6 (by decide) (by decide), if_pos rfl, if_neg (by decide)]
    exact ⟨rfl, rfl⟩
  · refine ⟨fun k hk => by rw [(s5 k hk).1, (s5 k hk).2], fun c _ => ?_⟩
    rw [zi 113 (by decide) (by decide) (by decide), zi 20 (by decide) (by decide) (by decide)]
  · intro g _
    refine ⟨?_, fun k hk => by rw [z3] at hk; omega⟩
    rw [z3]; exact z 123 (by decide) (by decide) (by decide) (by decide) (by decide) (by decide) (by decide) g 0
  · exact fun g y h => absurd h (z6 g y)
  · intro g y _ _ _
    rw [zi 114 (by decide) (by decide) (by decide), zi 115 (by decide) (by decide) (by decide), zi 116 (by decide) (by decide) (by decide), zi 117 (by decide) (by decide) (by decide), zi 118 (by decide) (by decide) (by decide)]
    refine ⟨rfl, rfl, rfl, rfl, rfl, fun q _ => ?_⟩
    rw [zi 119 (by decide) (by decide) (by decide), zi 120 (by decide) (by decide) (by decide)]
    exact ⟨rfl, rfl⟩
  · exact fun i hi => by omega
  · exact ⟨fun g y => ⟨fun h => absurd h (z6 g y), fun h => by omega⟩, fun g y h => absurd h (z6 g y), fun y hy => by omega⟩
  · refine ⟨by omega, fun g => ?_, fun c => ?_, fun y hy => by omega, fun g y h => absurd h (z6 g y)⟩
    · rw [zi 7 (by decide) (by decide) (by decide), t0]; omega
    · rw [zi 20 (by decide) (by decide) (by decide), t0]; omega
  · exact fun i hi => by omega
  · intro g _
    refine ⟨fun k y hk => by rw [z3] at hk; omega, fun y h => absurd h (z6 g y), fun j k p y _ hk => by rw [z3] at hk; omega, fun k p y hk => by rw [z3] at hk; omega, ?_⟩
    rw [z3, cn_no (fun i _ h => z6 g i h.1)]
  · intro g _
    exact ⟨fun k y hk => by rw [z3] at hk; omega, fun y h => absurd h (z6 g y), fun y h => absurd h (z6 g y)⟩
  · exact ⟨fun y hy => by omega, fun y p hy => by omega⟩
  · show σ.1 2 0 0 + ti_su (fun g => ti_su (fun o => pp_p σ g o) 40) 4 ≤ 6 * σ.1 1 0 0
    have e : ti_su (fun g => ti_su (fun o => pp_p σ g o) 40) 4 = 0 := su_no (fun g _ => su_no (fun y _ => by unfold pp_p; rw [if_neg (z6 g y)]))
    rw [e, z2]; omega
  · exact ⟨fun k _ => rfl, fun k hk => (s5 k hk).1.symm, fun y ja jb hy => by omega, fun g y h => absurd h (z6 g y), fun i hi => by omega⟩
theorem in_I (x : Int32) (b : Nat) : gl_I b 0 (gi_s x b) := by
  obtain ⟨s1, s2, s3, s4, s5, s6, s7⟩ := in_s x b
  have hn := in_n x
  refine ⟨in_J x b, ?_, ?_, by omega, by omega⟩
  · rw [s1 32 (by decide) (by decide) (by decide) (by decide), if_neg (by decide), if_neg (by decide), if_neg (by decide)]; decide
  · rw [s2 5 (by decide) (by decide)]; decide
theorem gl_HI (B : Nat) : gl_H (gl_I B) := by
  refine ⟨fun k σ hk I => ?_, fun k σ hk I x y z => ?_, fun k σ hk I x t a b c => gl_send I x t a b c, fun k σ hk I x => gl_bring hk I x, fun k σ hk I x => gl_twice hk I x, fun k σ hk I x b _ => gl_up I x b, fun k σ hk I => gl_agree I⟩
  · have hA := I.1.1.1
    have hn := jq_n I.1
    exact ⟨I.1.2.1.1, hA.2.2.2.2.1, hA.2.2.2.2.2, I.2.1, by rw [hA.2.2.1]; omega, gl_I1 I⟩
  · have J := I.1
    exact ⟨jq_value J x, jq_clock J x, jq_seen J x, jq_answered J x, jq_answer J x, jq_taken J x y, jq_time J x y z, jq_flight J x y, J.1.1.2.2.1.symm, jq_count J x⟩
theorem gl_law : gl_Law := by
  refine gl_main (fun S => ⟨gl_I S.1, gl_HI S.1, fun x => in_I x S.1, fun k σ hk I => ?_⟩)
  obtain ⟨_, _, _, h4, h5⟩ := I
  exact ⟨by omega, by omega⟩
