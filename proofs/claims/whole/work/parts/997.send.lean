/-! pure: send -/
theorem bA_pt {τ τ' : gs_T} {o : Nat} {u v : Int32} (hm' : sc_mv τ' o u ↔ sc_mv τ o u) (e0 : τ'.2.1 0 o 0 = τ.2.1 0 o 0) (e1 : τ'.2.1 1 o 0 = τ.2.1 1 o 0) : sc_bA τ' o u v = sc_bA τ o u v := by
  unfold sc_bA
  by_cases h0 : τ.2.1 0 o 0 = 0
  · rw [if_pos h0, if_pos (e0.trans h0), e1]
  · rw [if_neg h0, if_neg (fun z => h0 (e0.symm.trans z))]
    by_cases h3 : τ.2.1 0 o 0 = 3
    · rw [if_pos h3, if_pos (e0.trans h3)]
    · rw [if_neg h3, if_neg (fun z => h3 (e0.symm.trans z))]
      by_cases hm : sc_mv τ o u
      · rw [if_pos hm, if_pos (hm'.mpr hm), e1]
      · rw [if_neg hm, if_neg (fun z => hm (hm'.mp z))]
theorem bB_pt {τ τ' : gs_T} {o : Nat} {u v : Int32} (hm' : sc_mv τ' o u ↔ sc_mv τ o u) (e0 : τ'.2.1 0 o 0 = τ.2.1 0 o 0) (e1 : τ'.2.1 1 o 0 = τ.2.1 1 o 0) : sc_bB τ' o u v = sc_bB τ o u v := by
  unfold sc_bB
  by_cases h3 : τ.2.1 0 o 0 = 3
  · rw [if_pos h3, if_pos (e0.trans h3)]
  · rw [if_neg h3, if_neg (fun z => h3 (e0.symm.trans z))]
    by_cases hm : sc_mv τ o u
    · rw [if_pos hm, if_pos (hm'.mpr hm), e1]
    · rw [if_neg hm, if_neg (fun z => hm (hm'.mp z))]
set_option maxHeartbeats 4000000 in
theorem jSd {τ τ' μ μ' : gs_T} (J : jj_J τ μ) {q r f s cl u w w2 : Nat} {k c : Int32} (n0 : τ'.1 0 = τ.1 0) (n3 : τ'.1 3 = τ.1 3) (n4 : τ'.1 4 = τ.1 4) (n5 : τ'.1 5 = τ.1 5) (i5 : τ'.2.1 5 = τ.2.1 5) (i6 : τ'.2.1 6 = τ.2.1 6) (i7 : τ'.2.1 7 = τ.2.1 7) (i19 : τ'.2.1 19 = τ.2.1 19) (i20 : τ'.2.1 20 = τ.2.1 20) (m31 : μ'.1 31 = μ.1 31) (m100 : μ'.1 100 = μ.1 100) (m123 : μ'.1 123 = μ.1 123) (m124 : μ'.1 124 = μ.1 124) (k101 : μ'.2.1 101 = μ.2.1 101) (k102 : μ'.2.1 102 = μ.2.1 102) (k103 : μ'.2.1 103 = μ.2.1 103) (k111 : μ'.2.1 111 = μ.2.1 111) (k112 : μ'.2.1 112 = μ.2.1 112) (k113 : μ'.2.1 113 = μ.2.1 113) (k114 : μ'.2.1 114 = μ.2.1 114) (k115 : μ'.2.1 115 = μ.2.1 115) (k116 : μ'.2.1 116 = μ.2.1 116) (k117 : μ'.2.1 117 = μ.2.1 117) (k118 : μ'.2.1 118 = μ.2.1 118) (k119 : μ'.2.1 119 = μ.2.1 119) (k120 : μ'.2.1 120 = μ.2.1 120) (k121 : μ'.2.1 121 = μ.2.1 121) (k122 : μ'.2.1 122 = μ.2.1 122) (k133 : μ'.2.1 133 = μ.2.1 133) (hq : τ.1 1 0 0 = q) (hq4 : q < 40) (N1 : τ'.1 1 0 0 = q + 1) (N2 : τ'.1 2 0 0 = τ.1 2 0 0 + r) (hr : (f = s ∧ r = 1) ∨ (f < s ∧ r = 2)) (o12 : ∀ y, τ'.1 12 y 0 = if y = q then cl else τ.1 12 y 0) (o13 : ∀ y, τ'.1 13 y 0 = if y = q then u else τ.1 13 y 0) (o14 : ∀ y, τ'.1 14 y 0 = if y = q then w else τ.1 14 y 0) (b0 : ∀ y, τ'.2.1 0 y 0 = if y = q then k else τ.2.1 0 y 0) (b1 : ∀ y, τ'.2.1 1 y 0 = if y = q then c else τ.2.1 1 y 0) (b2 : ∀ y, τ'.2.1 2 y 0 = if y = q then τ.2.1 20 cl 0 else τ.2.1 2 y 0) (b3 : ∀ y, τ'.2.1 3 y 0 = if y = q then 0 else τ.2.1 3 y 0) (b4 : ∀ y, τ'.2.1 4 y 0 = if y = q then 0 else τ.2.1 4 y 0) (p6 : ∀ x y, τ'.1 6 x y = if (x = f ∨ x = s) ∧ y = q then 1 else τ.1 6 x y) (p7 : ∀ x y, τ'.1 7 x y = if (x = f ∨ x = s) ∧ y = q then (if f = s then 0 else if x = f then s + 1 else f + 1) else τ.1 7 x y) (p8 : ∀ x y, τ'.2.1 8 x y = if (x = f ∨ x = s) ∧ y = q then -1 else τ.2.1 8 x y) (p9 : ∀ x y, τ'.2.1 9 x y = if (x = f ∨ x = s) ∧ y = q then -1 else τ.2.1 9 x y) (p10 : ∀ x y, τ'.2.1 10 x y = if (x = f ∨ x = s) ∧ y = q then -1 else τ.2.1 10 x y) (p11 : ∀ x y, τ'.2.1 11 x y = if (x = f ∨ x = s) ∧ y = q then 0 else τ.2.1 11 x y) (p12 : ∀ x y, τ'.2.1 12 x y = if (x = f ∨ x = s) ∧ y = q then 0 else τ.2.1 12 x y) (p13 : ∀ x y, τ'.2.1 13 x y = if (x = f ∨ x = s) ∧ y = q then 0 else τ.2.1 13 x y) (p14 : ∀ x y, τ'.2.1 14 x y = if (x = f ∨ x = s) ∧ y = q then 0 else τ.2.1 14 x y) (p15 : ∀ x y, τ'.2.1 15 x y = if (x = f ∨ x = s) ∧ y = q then 0 else τ.2.1 15 x y) (x8 : ∀ i, i < τ.1 2 0 0 → τ'.1 8 i 0 = τ.1 8 i 0) (x9 : ∀ i, i < τ.1 2 0 0 → τ'.1 9 i 0 = τ.1 9 i 0) (x16 : ∀ i, i < τ.1 2 0 0 → τ'.2.1 16 i 0 = τ.2.1 16 i 0) (x17 : ∀ i, i < τ.1 2 0 0 → τ'.2.1 17 i 0 = τ.2.1 17 i 0) (x18 : ∀ i, i < τ.1 2 0 0 → τ'.2.1 18 i 0 = τ.2.1 18 i 0) (x126 : ∀ i, i < τ.1 2 0 0 → μ'.2.1 126 i 0 = μ.2.1 126 i 0) (x127 : ∀ i, i < τ.1 2 0 0 → μ'.1 127 i 0 = μ.1 127 i 0) (x128 : ∀ i, i < τ.1 2 0 0 → μ'.1 128 i 0 = μ.1 128 i 0) (x129 : ∀ i, i < τ.1 2 0 0 → μ'.1 129 i 0 = μ.1 129 i 0) (x130 : ∀ i, i < τ.1 2 0 0 → μ'.2.1 130 i 0 = μ.2.1 130 i 0) (x131 : ∀ i, i < τ.1 2 0 0 → μ'.2.1 131 i 0 = μ.2.1 131 i 0) (x132 : ∀ i, i < τ.1 2 0 0 → μ'.2.1 132 i 0 = μ.2.1 132 i 0) (new : ∀ i, τ.1 2 0 0 ≤ i → i < τ.1 2 0 0 + r → τ'.2.1 16 i 0 = 0 ∧ τ'.2.1 17 i 0 = -1 ∧ τ'.1 9 i 0 = q ∧ μ'.2.1 126 i 0 = 0 ∧ μ'.1 127 i 0 = q ∧ μ'.1 128 i 0 = 0 ∧ μ'.1 129 i 0 = τ'.1 8 i 0 ∧ μ'.2.1 130 i 0 = -1) (hfs : (f = u % τ.1 0 0 0 ∧ s = w % τ.1 0 0 0) ∨ (f = w % τ.1 0 0 0 ∧ s = u % τ.1 0 0 0)) (hk : k = 0 ∨ k = 1 ∨ k = 2 ∨ k = 3) (hcl : cl < 4) (ll : ∀ y, ¬ y = q → τ'.2.2 y = τ.2.2 y) (hab : ∀ p, p < q → sc_fw τ' q p → τ.1 12 p 0 = cl ∧ ¬ τ.2.1 3 p 0 = 0) (c104 : μ'.1 104 0 0 = q + 1) (c105 : ∀ y, μ'.1 105 y 0 = if y = q then cl else μ.1 105 y 0) (c106 : ∀ y, μ'.2.1 106 y 0 = if y = q then k else μ.2.1 106 y 0) (c107 : ∀ y, μ'.1 107 y 0 = if y = q then u else μ.1 107 y 0) (c108 : ∀ y, μ'.1 108 y 0 = if y = q then w2 else μ.1 108 y 0) (c109 : ∀ y, μ'.2.1 109 y 0 = if y = q then c else μ.2.1 109 y 0) (c110 : ∀ y, μ'.2.1 110 y 0 = if y = q then μ.2.1 113 cl 0 else μ.2.1 110 y 0) (hw : w = if k = 0 then u else w2) (c125 : μ'.1 125 0 0 = μ.1 125 0 0 + r) (GV : gv_V μ') (GW : gw_W τ') : jj_J τ' μ' := by
  have hn := jq_n J
  obtain ⟨⟨kA, kO, kG, kV, kT, kP, kZ, kM⟩, ⟨W, S, T, L, R, Wk, A, F⟩, V, G⟩ := J
  have hnp : ∀ x, ¬ τ.1 6 x q = 1 := fun x z => by have := (gw_p W z).2; omega
  have hn0 : 0 < τ.1 0 0 0 := by omega
  have hu4 : u % τ.1 0 0 0 < τ.1 0 0 0 := Nat.mod_lt _ hn0
  have hw4 : w % τ.1 0 0 0 < τ.1 0 0 0 := Nat.mod_lt _ hn0
  have hf4 : f < τ.1 0 0 0 ∧ s < τ.1 0 0 0 := by omega
  have hne : ∀ x y, τ.1 6 x y = 1 → ¬ y = q := fun x y z w => hnp x (by rw [← w]; exact z)
  have hpa : ∀ x y, τ'.1 6 x y = 1 → ¬ y = q → τ.1 6 x y = 1 := fun x y z w => by
    rw [p6, if_neg (fun e => w e.2)] at z; exact z
  have hpb : ∀ x y, τ'.1 6 x y = 1 → y = q → x = f ∨ x = s := fun x y z w => by
    rw [p6] at z
    by_cases h : (x = f ∨ x = s) ∧ y = q
    · exact h.1
    · rw [if_neg h, w] at z; exact absurd z (hnp x)
  have hpc : ∀ x y, ¬ y = q → (τ'.1 6 x y = 1 ↔ τ.1 6 x y = 1) := fun x y w => by rw [p6, if_neg (fun e => w e.2)]
  have z7 : ∀ x y, ¬ y = q → τ'.1 7 x y = τ.1 7 x y := fun x y w => by rw [p7, if_neg (fun e => w e.2)]
  have z8 : ∀ x y, ¬ y = q → τ'.2.1 8 x y = τ.2.1 8 x y := fun x y w => by rw [p8, if_neg (fun e => w e.2)]
  have z9 : ∀ x y, ¬ y = q → τ'.2.1 9 x y = τ.2.1 9 x y := fun x y w => by rw [p9, if_neg (fun e => w e.2)]
  have z10 : ∀ x y, ¬ y = q → τ'.2.1 10 x y = τ.2.1 10 x y := fun x y w => by rw [p10, if_neg (fun e => w e.2)]
  have z11 : ∀ x y, ¬ y = q → τ'.2.1 11 x y = τ.2.1 11 x y := fun x y w => by rw [p11, if_neg (fun e => w e.2)]
  have z12 : ∀ x y, ¬ y = q → τ'.2.1 12 x y = τ.2.1 12 x y := fun x y w => by rw [p12, if_neg (fun e => w e.2)]
  have z13 : ∀ x y, ¬ y = q → τ'.2.1 13 x y = τ.2.1 13 x y := fun x y w => by rw [p13, if_neg (fun e => w e.2)]
  have z14 : ∀ x y, ¬ y = q → τ'.2.1 14 x y = τ.2.1 14 x y := fun x y w => by rw [p14, if_neg (fun e => w e.2)]
  have z15 : ∀ x y, ¬ y = q → τ'.2.1 15 x y = τ.2.1 15 x y := fun x y w => by rw [p15, if_neg (fun e => w e.2)]
  have y8 : ∀ x y, (x = f ∨ x = s) → y = q → τ'.2.1 8 x y = -1 := fun x y h w => by rw [p8, if_pos ⟨h, w⟩]
  have y9 : ∀ x y, (x = f ∨ x = s) → y = q → τ'.2.1 9 x y = -1 := fun x y h w => by rw [p9, if_pos ⟨h, w⟩]
  have y10 : ∀ x y, (x = f ∨ x = s) → y = q → τ'.2.1 10 x y = -1 := fun x y h w => by rw [p10, if_pos ⟨h, w⟩]
  have y11 : ∀ x y, (x = f ∨ x = s) → y = q → τ'.2.1 11 x y = 0 := fun x y h w => by rw [p11, if_pos ⟨h, w⟩]
  have y12 : ∀ x y, (x = f ∨ x = s) → y = q → τ'.2.1 12 x y = 0 := fun x y h w => by rw [p12, if_pos ⟨h, w⟩]
  have y13 : ∀ x y, (x = f ∨ x = s) → y = q → τ'.2.1 13 x y = 0 := fun x y h w => by rw [p13, if_pos ⟨h, w⟩]
  have y15 : ∀ x y, (x = f ∨ x = s) → y = q → τ'.2.1 15 x y = 0 := fun x y h w => by rw [p15, if_pos ⟨h, w⟩]
  have v12 : ∀ y, ¬ y = q → τ'.1 12 y 0 = τ.1 12 y 0 := fun y w => by rw [o12, if_neg w]
  have v13 : ∀ y, ¬ y = q → τ'.1 13 y 0 = τ.1 13 y 0 := fun y w => by rw [o13, if_neg w]
  have v14 : ∀ y, ¬ y = q → τ'.1 14 y 0 = τ.1 14 y 0 := fun y w => by rw [o14, if_neg w]
  have w0 : ∀ y, ¬ y = q → τ'.2.1 0 y 0 = τ.2.1 0 y 0 := fun y w => by rw [b0, if_neg w]
  have w1 : ∀ y, ¬ y = q → τ'.2.1 1 y 0 = τ.2.1 1 y 0 := fun y w => by rw [b1, if_neg w]
  have W2 : ∀ y, ¬ y = q → τ'.2.1 2 y 0 = τ.2.1 2 y 0 := fun y w => by rw [b2, if_neg w]
  have w3 : ∀ y, ¬ y = q → τ'.2.1 3 y 0 = τ.2.1 3 y 0 := fun y w => by rw [b3, if_neg w]
  have w4 : ∀ y, ¬ y = q → τ'.2.1 4 y 0 = τ.2.1 4 y 0 := fun y w => by rw [b4, if_neg w]
  have hpk : ∀ x y j, pp_k τ' x y j ↔ pp_k τ x y j := fun x y j => by unfold pp_k; rw [n3, n4, n5]
  have hmv : ∀ y a, ¬ y = q → (sc_mv τ' y a ↔ sc_mv τ y a) := fun y a h => by unfold sc_mv; rw [w0 y h, w1 y h, v13 y h, v14 y h]
  have hbA : ∀ y a b, ¬ y = q → sc_bA τ' y a b = sc_bA τ y a b := fun y a b h => bA_pt (hmv y a h) (w0 y h) (w1 y h)
  have hbB : ∀ y a b, ¬ y = q → sc_bB τ' y a b = sc_bB τ y a b := fun y a b h => bB_pt (hmv y a h) (w0 y h) (w1 y h)
  have hrp : ∀ y a b, ¬ y = q → sc_rp τ' y a b = sc_rp τ y a b := fun y a b h => by unfold sc_rp; rw [w0 y h, w1 y h, hbA y a b h]
  have hpe : ∀ y j a b c, ¬ y = q → pp_e τ' y j a b c = pp_e τ y j a b c := fun y j a b c h => by unfold pp_e; rw [v13 y h, v14 y h, hbA y a b h, hbB y a b h]
  have hky : ∀ x y, ¬ y = q → sc_ky τ' x y = sc_ky τ x y := fun x y h => by unfold sc_ky; rw [v13 y h, v14 y h, n0]
  have hlt : ∀ x y, ¬ y = q → sc_lt τ' x y = sc_lt τ x y := fun x y h => by unfold sc_lt; rw [z8 x y h, z10 x y h]
  have hmo : ∀ i, i < τ.1 2 0 0 → ¬ τ.1 9 i 0 = q := fun i hi => hne _ _ (gw_mp W (gw_m W hi))
  have h13q : τ'.1 13 q 0 = u := by rw [o13, if_pos rfl]
  have h14q : τ'.1 14 q 0 = w := by rw [o14, if_pos rfl]
  refine ⟨⟨?_, ?_, ?_, ?_, ?_, ?_, ?_, ?_⟩, ⟨GW, ?_, ?_, ?_, ?_, ?_, ?_, ?_⟩, V, ?_⟩
  · exact ⟨by rw [m100, n0]; exact kA.1, by rw [c104, N1], by rw [c125, N2, kA.2.2.1], by rw [k133, i5]; exact kA.2.2.2.1, GV, by rw [m31]; exact kA.2.2.2.2.2⟩
  · refine ⟨fun y hy => ?_, fun y hy hy4 => ?_⟩
    · rw [N1] at hy
      rw [c105, c106, c107, c108, c109, c110, k111, k112]
      by_cases hyq : y = q
      · rw [hyq, o12, b0, o13, o14, b1, b2, b3]
        rw [if_pos rfl, if_pos rfl, if_pos rfl, if_pos rfl, if_pos rfl, if_pos rfl, if_pos rfl, if_pos rfl, if_pos rfl, if_pos rfl, if_pos rfl, if_pos rfl, if_pos rfl]
        exact ⟨rfl, rfl, rfl, hw, rfl, kV.2 cl hcl, kO.2 q (by omega) hq4, fun z => absurd rfl z⟩
      · rw [if_neg hyq, if_neg hyq, if_neg hyq, if_neg hyq, if_neg hyq, if_neg hyq, v12 y hyq, w0 y hyq, v13 y hyq, v14 y hyq, w1 y hyq, W2 y hyq, w3 y hyq, w4 y hyq]
        exact kO.1 y (by omega)
    · rw [N1] at hy
      rw [k111]
      exact kO.2 y (by omega) hy4
  · exact jj_G_fr n0 i6 i7 k101 k102 kG
  · exact jj_V_fr i19 i20 k103 k113 kV
  · exact jj_T_fr n0 n3 n5 m123 m124 kT
  · intro x y hxy
    by_cases hyq : y = q
    · have hx := hpb x y hxy hyq
      have hxn : x < τ.1 0 0 0 := by omega
      have h9 := kZ x q hxn hq4 (hnp x)
      rw [y8 x y hx hyq, y9 x y hx hyq, y10 x y hx hyq, y11 x y hx hyq, y12 x y hx hyq, y13 x y hx hyq, y15 x y hx hyq, k114, k115, k116, k117, k118, k119, k120, k121, k122, hyq]
      have t1 : ti_tm (-1) = 0 := by decide
      refine ⟨by rw [if_pos rfl]; exact h9.1, by rw [t1]; exact (h9.2.2.2.2.2 x (by omega)).1, by rw [t1]; exact h9.2.1, h9.2.2.1, h9.2.2.2.2.1, fun z hz => ?_⟩
      have hz4 : z < 4 := by
        rw [p7, if_pos ⟨hx, rfl⟩] at hz
        split at hz
        · omega
        · split at hz <;> omega
      refine ⟨by rw [t1]; exact (h9.2.2.2.2.2 z hz4).1, h9.2.2.2.1, (h9.2.2.2.2.2 z hz4).2, fun e => absurd rfl e⟩
    · have h9 := kP x y (hpa x y hxy hyq)
      rw [z7 x y hyq, z8 x y hyq, z9 x y hyq, z10 x y hyq, z11 x y hyq, z12 x y hyq, z13 x y hyq, z14 x y hyq, z15 x y hyq, v13 y hyq, n0, k114, k115, k116, k117, k118, k119, k120, k121, k122]
      exact h9
  · intro x y hx hy hxy
    rw [n0] at hx
    rw [k114, k115, k116, k117, k118, k119, k120]
    refine kZ x y hx hy (fun z => hxy ?_)
    exact (hpc x y (hne x y z)).mpr z
  · intro i hi
    rw [N2] at hi
    by_cases hi2 : i < τ.1 2 0 0
    · have h9 := kM i hi2
      have hy := hmo i hi2
      unfold jj_m at h9 ⊢
      rw [x16 i hi2, x17 i hi2, x8 i hi2, x9 i hi2, x18 i hi2, x126 i hi2, x127 i hi2, x128 i hi2, x129 i hi2, x130 i hi2, x131 i hi2, x132 i hi2, v13 _ hy, n0, z7 _ _ hy]
      exact h9
    · obtain ⟨e1, e2, e3, e4, e5, e6, e7, e8⟩ := new i (by omega) hi
      unfold jj_m
      rw [e1, e2, e3, e4, e5, e6, e7, e8]
      exact ⟨rfl, rfl, rfl, rfl, by rw [if_neg (by decide)], fun z => absurd z (by decide), Or.inl ⟨rfl, rfl⟩⟩
  · refine ⟨fun x y => ?_, fun x y hxy => ?_, fun y hy => ?_⟩
    · rw [N1, n0]
      by_cases hyq : y = q
      · rw [hyq, h13q, h14q, p6]
        constructor
        · intro z
          refine ⟨by omega, ?_⟩
          by_cases h : (x = f ∨ x = s) ∧ q = q
          · have := h.1; omega
          · rw [if_neg h] at z; exact absurd z (hnp x)
        · intro z
          rw [if_pos ⟨by omega, rfl⟩]
      · rw [hpc x y hyq, v13 y hyq, v14 y hyq, S.1 x y]
        constructor
        · intro z; exact ⟨by omega, z.2⟩
        · intro z; exact ⟨by omega, z.2⟩
    · by_cases hyq : y = q
      · have hx := hpb x y hxy hyq
        rw [hyq, h13q, h14q, n0, p7, if_pos ⟨hx, rfl⟩]
        by_cases e1 : f = s
        · rw [if_pos e1, if_pos (by omega)]
        · rw [if_neg e1, if_neg (show ¬ u % τ.1 0 0 0 = w % τ.1 0 0 0 by omega)]
          by_cases e2 : x = f
          · rw [if_pos e2]
            by_cases e3 : x = u % τ.1 0 0 0
            · rw [if_pos e3]; omega
            · rw [if_neg e3]; omega
          · rw [if_neg e2]
            by_cases e3 : x = u % τ.1 0 0 0
            · rw [if_pos e3]; omega
            · rw [if_neg e3]; omega
      · rw [z7 x y hyq, v13 y hyq, v14 y hyq, n0]
        exact S.2.1 x y (hpa x y hxy hyq)
    · rw [N1] at hy
      by_cases hyq : y = q
      · rw [hyq, h13q, h14q, b0, if_pos rfl]
        refine ⟨hk, fun z => ?_⟩
        rw [hw, if_pos z]
      · rw [w0 y hyq, v13 y hyq, v14 y hyq]
        exact S.2.2 y (by omega)
  · obtain ⟨t1, t2, t3, t4, t5⟩ := T
    refine ⟨by rw [i5]; exact t1, by rw [i7, i5]; exact t2, by rw [i20, i5]; exact t3, fun y hy => ?_, fun x y hxy => ?_⟩
    · rw [N1] at hy
      rw [i5]
      by_cases hyq : y = q
      · rw [hyq, b2, if_pos rfl]; exact t3 cl
      · rw [W2 y hyq]; exact t4 y (by omega)
    · by_cases hyq : y = q
      · have hx := hpb x y hxy hyq
        rw [y8 x y hx hyq, y9 x y hx hyq, y10 x y hx hyq]
        exact ⟨Or.inl ti_m1, Or.inl ti_m1, Or.inl ti_m1⟩
      · rw [W2 y hyq, z8 x y hyq, z9 x y hyq, z10 x y hyq, z7 x y hyq, z8 _ y hyq, i7]
        exact t5 x y (hpa x y hxy hyq)
  · intro i hi h16
    rw [N2] at hi
    by_cases hi2 : i < τ.1 2 0 0
    · rw [x16 i hi2] at h16
      have hy := hmo i hi2
      rw [x18 i hi2, x8 i hi2, x9 i hi2, z7 _ _ hy, z8 _ _ hy]
      exact L i hi2 h16
    · have h9 := (new i (by omega) hi).1
      rw [h16] at h9
      exact absurd h9 (by decide)
  · intro x hx
    rw [n0] at hx
    obtain ⟨r1, r2, r3, r4, r5⟩ := R x hx
    have hrow : ∀ j p, τ.1 5 x j = p + 1 → ¬ p = q := fun j p z => hne x p (gw_tp W z)
    rw [n3, n5]
    refine ⟨fun j p hj hp2 => ?_, fun y hy => ?_, fun j k p y hj hk9 hp2 hy => ?_, fun j p y hj hp2 hy h8 h11 => ?_, ?_⟩
    · rw [z11 x p (hrow j p hp2), z10 x p (hrow j p hp2)]; exact r1 j p hj hp2
    · by_cases hyq : y = q
      · exact Or.inl (y11 x y (hpb x y hy hyq) hyq)
      · rw [z11 x y hyq]; exact r2 y (hpa x y hy hyq)
    · rw [z10 x p (hrow j p hp2), z10 x y (hrow k y hy)]; exact r3 j k p y hj hk9 hp2 hy
    · by_cases hyq : y = q
      · rw [y8 x y (hpb x y hy hyq) hyq] at h8; exact absurd ti_m1 h8
      · rw [z8 x y hyq] at h8
        rw [z11 x y hyq] at h11
        rw [z10 x p (hrow j p hp2), hlt x y hyq]
        exact r4 j p y hj hp2 (hpa x y hy hyq) h8 h11
    · rw [r5]
      refine ti_cn_congr (fun y hy => ?_)
      by_cases hyq : y = q
      · constructor
        · intro z; rw [hyq] at z; exact absurd z.1 (hnp x)
        · intro z
          have h9 := y11 x y (hpb x y z.1 hyq) hyq
          rw [z.2] at h9
          exact absurd h9 (by decide)
      · rw [hpc x y hyq, z11 x y hyq]
  · intro x hx
    rw [n0] at hx
    obtain ⟨a1, a2, a3⟩ := Wk x hx
    rw [n3, n4, n5]
    refine ⟨fun j p hj hp2 => ?_, fun y hy h11 => ?_, fun y hy => ?_⟩
    · rw [z15 x p (hne x p (gw_tp W hp2))]; exact a1 j p hj hp2
    · by_cases hyq : y = q
      · exact y15 x y (hpb x y hy hyq) hyq
      · rw [z11 x y hyq] at h11
        rw [z15 x y hyq]; exact a2 y (hpa x y hy hyq) h11
    · by_cases hyq : y = q
      · exact Or.inl (y12 x y (hpb x y hy hyq) hyq)
      · rw [z12 x y hyq]
        rcases a3 y (hpa x y hy hyq) with z | ⟨z, j, hj⟩
        · exact Or.inl z
        · exact Or.inr ⟨z, j, (hpk _ _ _).mpr hj⟩
  · obtain ⟨a1, a2⟩ := A
    refine ⟨fun y hy => ?_, fun y p hy hpy hfw => ?_⟩
    · rw [N1] at hy
      by_cases hyq : y = q
      · refine ⟨Or.inl (by rw [hyq, b3, if_pos rfl]), fun x hx h15 => ?_⟩
        have h9 := y15 x y (hpb x y hx hyq) hyq
        rw [h15] at h9
        exact absurd h9 (by decide)
      · have h9 := a1 y (by omega)
        rw [w3 y hyq, v12 y hyq, i20]
        refine ⟨?_, fun x hx h15 => ?_⟩
        · rcases h9.1 with z | z
          · exact Or.inl z
          · refine Or.inr ⟨z.1, fun x hx => ?_⟩
            obtain ⟨⟨j, hj⟩, h8⟩ := z.2 x (hpa x y hx hyq)
            rw [z10 x y hyq]
            exact ⟨⟨j, (hpk _ _ _).mpr hj⟩, h8⟩
        · rw [z15 x y hyq] at h15
          exact h9.2 x (hpa x y hx hyq) h15
    · rw [N1] at hy
      have hpq : ¬ p = q := by omega
      rw [w3 p hpq]
      by_cases hyq : y = q
      · rw [hyq] at hfw hpy ⊢
        obtain ⟨e1, e2⟩ := hab p hpy hfw
        have h9 := (a1 p (by omega)).1
        rcases h9 with z | z
        · exact absurd z e2
        · refine ⟨z.1, fun x hx => ?_⟩
          have h8 := (z.2 x (hpa x p hx hpq)).2
          rw [e1] at h8
          rw [z10 x p hpq, b2, if_pos rfl]
          exact h8
      · have hfw : sc_fw τ y p := by unfold sc_fw at hfw ⊢; rw [ll y hyq] at hfw; exact hfw
        have h9 := a2 y p (by omega) hpy hfw
        refine ⟨h9.1, fun x hx => ?_⟩
        rw [z10 x p hpq, W2 y hyq]
        exact h9.2 x (hpa x p hx hpq)
  · have F : τ.1 2 0 0 + ti_su (fun g => ti_su (fun o => pp_p τ g o) 40) 4 ≤ 6 * τ.1 1 0 0 := F
    show τ'.1 2 0 0 + ti_su (fun g => ti_su (fun o => pp_p τ' g o) 40) 4 ≤ 6 * τ'.1 1 0 0
    have e0 : ∀ x, pp_p τ x q = 0 := fun x => by unfold pp_p; rw [if_neg (hnp x)]
    have e1 : ∀ x y, ¬ y = q → pp_p τ' x y = pp_p τ x y := fun x y h => by
      have e6 : τ'.1 6 x y = τ.1 6 x y := by rw [p6, if_neg (fun e => h e.2)]
      unfold pp_p
      rw [z8 x y h, z12 x y h, e6]
    have e2 : ∀ x, (x = f ∨ x = s) → pp_p τ' x q = 2 := fun x h => by
      have e6 : τ'.1 6 x q = 1 := by rw [p6, if_pos ⟨h, rfl⟩]
      unfold pp_p
      rw [y8 x q h rfl, y12 x q h rfl, e6, if_pos rfl, if_pos rfl, if_pos rfl]
    have e3 : ∀ x, ¬ (x = f ∨ x = s) → pp_p τ' x q = 0 := fun x h => by
      have e6 : τ'.1 6 x q = τ.1 6 x q := by rw [p6, if_neg (fun e => h e.1)]
      unfold pp_p
      rw [e6, if_neg (hnp x)]
    have h1 := su2_dec (f' := pp_p τ) (f := fun x y => if x = f ∧ y = q then 2 else pp_p τ x y) (g := f) (o := q) (d := 2) (by omega) hq4 (by rw [e0]; exact (if_pos ⟨rfl, rfl⟩).symm) (fun x y h => (if_neg h).symm)
    rcases hr with ⟨r1, r2⟩ | ⟨r1, r2⟩
    · have h2 : ti_su (fun g => ti_su (fun o => pp_p τ' g o) 40) 4 = ti_su (fun x => ti_su (fun y => if x = f ∧ y = q then 2 else pp_p τ x y) 40) 4 := by
        refine ti_su_congr (fun x _ => ti_su_congr (fun y _ => ?_))
        by_cases hyq : y = q
        · rw [hyq]
          by_cases hx : x = f
          · rw [if_pos ⟨hx, rfl⟩, e2 x (Or.inl hx)]
          · rw [if_neg (fun e => hx e.1), e3 x (by omega), e0]
        · rw [if_neg (fun e => hyq e.2), e1 x y hyq]
      rw [N1, N2, h2]
      omega
    · have h2 := su2_dec (f' := fun x y => if x = f ∧ y = q then 2 else pp_p τ x y) (f := pp_p τ') (g := s) (o := q) (d := 2) (by omega) hq4 (by
          show (if s = f ∧ q = q then 2 else pp_p τ s q) + 2 = _
          rw [if_neg (by omega), e0, e2 s (Or.inr rfl)]) (fun x y h => by
          show (if x = f ∧ y = q then 2 else pp_p τ x y) = _
          by_cases hyq : y = q
          · rw [hyq] at h ⊢
            by_cases hx : x = f
            · rw [if_pos ⟨hx, rfl⟩, e2 x (Or.inl hx)]
            · rw [if_neg (fun e => hx e.1), e3 x (by omega), e0]
          · rw [if_neg (fun e => hyq e.2), e1 x y hyq])
      have h1 : ti_su (fun g => ti_su (fun o => pp_p τ g o) 40) 4 + 2 = ti_su (fun x => ti_su (fun y => if x = f ∧ y = q then 2 else pp_p τ x y) 40) 4 := h1
      have h2 : ti_su (fun x => ti_su (fun y => if x = f ∧ y = q then 2 else pp_p τ x y) 40) 4 + 2 = ti_su (fun g => ti_su (fun o => pp_p τ' g o) 40) 4 := h2
      rw [N1, N2]
      omega
  · obtain ⟨g1, g2, g3, g4, g5⟩ := G
    refine ⟨by rw [n0]; exact g1, by rw [n0, n4, i19]; exact g2, fun y ja jb hy hz pa pb2 => ?_, fun x y hxy => ?_, fun i hi hk2 => ?_⟩
    · rw [N1] at hy
      have hyq : ¬ y = q := fun e => by rw [e, b3, if_pos rfl] at hz; exact absurd hz (by decide)
      rw [w3 y hyq] at hz
      rw [n0, v13 y hyq, hpk] at pa
      rw [n0, v14 y hyq, hpk] at pb2
      have h9 := g3 y ja jb (by omega) hz pa pb2
      unfold pp_i at h9 ⊢
      rw [n0, v13 y hyq, v14 y hyq, w4 y hyq, hrp _ _ _ hyq]
      refine ⟨h9.1, fun j hj => ?_⟩
      rw [hpe _ _ _ _ _ hyq, hpe _ _ _ _ _ hyq]
      exact h9.2 j hj
    · by_cases hyq : y = q
      · exact Or.inl (y13 x y (hpb x y hxy hyq) hyq)
      · rw [z13 x y hyq, z7 x y hyq, z12 _ y hyq, z14 x y hyq, hky _ y hyq]
        rcases g4 x y (hpa x y hxy hyq) with z | ⟨e1, e2, e3, e4⟩
        · exact Or.inl z
        · exact Or.inr ⟨e1, e2, e3, fun j hj => e4 j ((hpk _ _ _).mp hj)⟩
    · rw [N2] at hi
      by_cases hi2 : i < τ.1 2 0 0
      · rw [x16 i hi2] at hk2
        have hy := hmo i hi2
        rw [x18 i hi2, x8 i hi2, x9 i hi2, z7 _ _ hy, z12 _ _ hy, hky _ _ hy]
        have h9 := g5 i hi2 hk2
        exact ⟨h9.1, fun j hj => h9.2 j ((hpk _ _ _).mp hj)⟩
      · have h9 := (new i (by omega) hi).1
        rw [hk2] at h9
        exact absurd h9 (by decide)
