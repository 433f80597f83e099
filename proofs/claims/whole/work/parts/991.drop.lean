/-! pure: the hand, the drop, the count -/
/-- as jj_J, with the values of the rows named -/
def jj_K (τ μ : gs_T) (V : Nat → Nat → Nat → Int32) : Prop := (jj_A τ μ ∧ jj_O τ μ ∧ jj_G τ μ ∧ jj_V τ μ ∧ jj_T τ μ ∧ jj_P τ μ ∧ jj_Z τ μ ∧ jj_M τ μ) ∧ (gw_W τ ∧ pp_S τ ∧ pp_T τ ∧ pp_L τ ∧ pp_R τ ∧ pp_W τ ∧ pp_A τ ∧ pp_F τ) ∧ pp_G τ V
theorem jk_J {τ μ : gs_T} {V : Nat → Nat → Nat → Int32} (K : jj_K τ μ V) : jj_J τ μ := ⟨K.1, K.2.1, V, K.2.2⟩
/-- the message in the hand: kind k from f to group x's part of order y with c; the model's at i -/
def jj_h (τ μ : gs_T) (V : Nat → Nat → Nat → Int32) (k f : Int32) (x y : Nat) (c : Int32) (i : Nat) : Prop := jj_m τ μ k f x y c i ∧ τ.1 6 x y = 1 ∧ (k = 1 → c = τ.2.1 8 (τ.1 7 x y - 1) y ∧ ¬ c = -1) ∧ (k = 2 → τ.2.1 12 (τ.1 7 x y - 1) y = 1 ∧ ∀ j, pp_k τ (τ.1 7 x y - 1) y j → c = V (τ.1 7 x y - 1) j (sc_ky τ (τ.1 7 x y - 1) y))
theorem jh_of {τ μ : gs_T} {V : Nat → Nat → Nat → Int32} (K : jj_K τ μ V) {i : Nat} (hi : i < τ.1 2 0 0) : jj_h τ μ V (τ.2.1 16 i 0) (τ.2.1 17 i 0) (τ.1 8 i 0) (τ.1 9 i 0) (τ.2.1 18 i 0) i :=
  ⟨K.1.2.2.2.2.2.2.2 i hi, gw_mp K.2.1.1 (gw_m K.2.1.1 hi), K.2.1.2.2.2.1 i hi, K.2.2.2.2.2.2 i hi⟩
theorem jh_fr {τ τ' μ μ' : gs_T} {V : Nat → Nat → Nat → Int32} {k f : Int32} {x y : Nat} {c : Int32} {i i' : Nat} (h : jj_h τ μ V k f x y c i) (n0 : τ'.1 0 = τ.1 0) (n3 : τ'.1 3 = τ.1 3) (n4 : τ'.1 4 = τ.1 4) (n5 : τ'.1 5 = τ.1 5) (n6 : τ'.1 6 = τ.1 6) (n7 : τ'.1 7 = τ.1 7) (n13 : τ'.1 13 = τ.1 13) (n14 : τ'.1 14 = τ.1 14) (i8 : τ'.2.1 8 = τ.2.1 8) (i12 : τ'.2.1 12 = τ.2.1 12) (q1 : μ'.2.1 126 i' 0 = μ.2.1 126 i 0) (q2 : μ'.1 127 i' 0 = μ.1 127 i 0) (q3 : μ'.1 128 i' 0 = μ.1 128 i 0) (q4 : μ'.1 129 i' 0 = μ.1 129 i 0) (q5 : μ'.2.1 130 i' 0 = μ.2.1 130 i 0) (q6 : μ'.2.1 131 i' 0 = μ.2.1 131 i 0) (q7 : μ'.2.1 132 i' 0 = μ.2.1 132 i 0) : jj_h τ' μ' V k f x y c i' := by
  have e3 : sc_ky τ' = sc_ky τ := by funext g o; exact sc_ky_fr n0 n13 n14
  unfold jj_h jj_m pp_k at h ⊢
  rw [e3, n0, n3, n4, n5, n6, n7, n13, i8, i12, q1, q2, q3, q4, q5, q6, q7]
  exact h
theorem sh_gen {α : Type} (s : gs_T → Nat → gs_T) (sh : gs_T → Nat → Nat → gs_T) (h0 : ∀ σ e, sh σ e 0 = σ) (h1 : ∀ σ e m, sh σ e (m + 1) = sh (s σ e) (e + 1) m) (f : gs_T → Nat → α) (hf : ∀ σ e i, f (s σ e) i = if i = e then f σ (e + 1) else f σ i) : ∀ m σ e i, f (sh σ e m) i = if e ≤ i ∧ i < e + m then f σ (i + 1) else f σ i := by
  intro m
  induction m with
  | zero => intro σ e i; rw [h0, if_neg (by omega)]
  | succ m ih =>
    intro σ e i
    rw [h1, ih, hf, hf]
    by_cases hi : i = e
    · rw [if_neg (by omega), if_pos hi, if_pos (by omega), hi]
    · by_cases h2 : e + 1 ≤ i ∧ i < e + 1 + m
      · rw [if_pos h2, if_neg (by omega), if_pos (by omega)]
      · rw [if_neg h2, if_neg hi, if_neg (by omega)]
theorem sh_keep {α : Type} (s : gs_T → Nat → gs_T) (sh : gs_T → Nat → Nat → gs_T) (h0 : ∀ σ e, sh σ e 0 = σ) (h1 : ∀ σ e m, sh σ e (m + 1) = sh (s σ e) (e + 1) m) (f : gs_T → α) (hf : ∀ σ e, f (s σ e) = f σ) : ∀ m σ e, f (sh σ e m) = f σ := by
  intro m
  induction m with
  | zero => intro σ e; rw [h0]
  | succ m ih => intro σ e; rw [h1, ih, hf]
theorem shk_n {σ : gs_T} {e m t : Nat} (h1 : t ≠ 8) (h2 : t ≠ 9) (h3 : t ≠ 10) (h4 : t ≠ 18) : (sc_sh σ e m).1 t = σ.1 t :=
  sh_keep sc_m1 sc_sh (fun _ _ => rfl) (fun _ _ _ => rfl) (fun σ => σ.1 t) (fun σ e => by simp only [sc_m1, sc_ad, gs_i, gs_n, gs_u_ne h1, gs_u_ne h2, gs_u_ne h3, gs_u_ne h4]) m σ e
theorem shk_i {σ : gs_T} {e m t : Nat} (h1 : t ≠ 16) (h2 : t ≠ 17) (h3 : t ≠ 18) : (sc_sh σ e m).2.1 t = σ.2.1 t :=
  sh_keep sc_m1 sc_sh (fun _ _ => rfl) (fun _ _ _ => rfl) (fun σ => σ.2.1 t) (fun σ e => by simp only [sc_m1, sc_ad, gs_i, gs_n, gs_u_ne h1, gs_u_ne h2, gs_u_ne h3]) m σ e
theorem shk_l {σ : gs_T} {e m : Nat} : (sc_sh σ e m).2.2 = σ.2.2 :=
  sh_keep sc_m1 sc_sh (fun _ _ => rfl) (fun _ _ _ => rfl) (fun σ => σ.2.2) (fun σ e => rfl) m σ e
theorem smk_n {σ : gs_T} {e m t : Nat} (h1 : t ≠ 127) (h2 : t ≠ 128) (h3 : t ≠ 129) : (sm_sh σ e m).1 t = σ.1 t :=
  sh_keep (fun σ e => sm_move σ (e + 1) e) sm_sh (fun _ _ => rfl) (fun _ _ _ => rfl) (fun σ => σ.1 t) (fun σ e => by simp only [sm_move, gs_i, gs_n, gs_u_ne h1, gs_u_ne h2, gs_u_ne h3]) m σ e
theorem smk_i {σ : gs_T} {e m t : Nat} (h1 : t ≠ 126) (h2 : t ≠ 130) (h3 : t ≠ 131) (h4 : t ≠ 132) : (sm_sh σ e m).2.1 t = σ.2.1 t :=
  sh_keep (fun σ e => sm_move σ (e + 1) e) sm_sh (fun _ _ => rfl) (fun _ _ _ => rfl) (fun σ => σ.2.1 t) (fun σ e => by simp only [sm_move, gs_i, gs_n, gs_u_ne h1, gs_u_ne h2, gs_u_ne h3, gs_u_ne h4]) m σ e
theorem sh_1_8 {σ : gs_T} {e m : Nat} (i : Nat) : (sc_sh σ e m).1 8 i 0 = if e ≤ i ∧ i < e + m then σ.1 8 (i + 1) 0 else σ.1 8 i 0 :=
  sh_gen sc_m1 sc_sh (fun _ _ => rfl) (fun _ _ _ => rfl) (fun σ i => σ.1 8 i 0) (fun σ e i => by simp (decide := true) only [sc_m1, sc_ad, gs_i, gs_n, gs_u_ne]; exact gu_0) m σ e i
theorem sh_1_9 {σ : gs_T} {e m : Nat} (i : Nat) : (sc_sh σ e m).1 9 i 0 = if e ≤ i ∧ i < e + m then σ.1 9 (i + 1) 0 else σ.1 9 i 0 :=
  sh_gen sc_m1 sc_sh (fun _ _ => rfl) (fun _ _ _ => rfl) (fun σ i => σ.1 9 i 0) (fun σ e i => by simp (decide := true) only [sc_m1, sc_ad, gs_i, gs_n, gs_u_ne]; exact gu_0) m σ e i
theorem sh_2_1_16 {σ : gs_T} {e m : Nat} (i : Nat) : (sc_sh σ e m).2.1 16 i 0 = if e ≤ i ∧ i < e + m then σ.2.1 16 (i + 1) 0 else σ.2.1 16 i 0 :=
  sh_gen sc_m1 sc_sh (fun _ _ => rfl) (fun _ _ _ => rfl) (fun σ i => σ.2.1 16 i 0) (fun σ e i => by simp (decide := true) only [sc_m1, sc_ad, gs_i, gs_n, gs_u_ne]; exact gu_0) m σ e i
theorem sh_2_1_17 {σ : gs_T} {e m : Nat} (i : Nat) : (sc_sh σ e m).2.1 17 i 0 = if e ≤ i ∧ i < e + m then σ.2.1 17 (i + 1) 0 else σ.2.1 17 i 0 :=
  sh_gen sc_m1 sc_sh (fun _ _ => rfl) (fun _ _ _ => rfl) (fun σ i => σ.2.1 17 i 0) (fun σ e i => by simp (decide := true) only [sc_m1, sc_ad, gs_i, gs_n, gs_u_ne]; exact gu_0) m σ e i
theorem sh_2_1_18 {σ : gs_T} {e m : Nat} (i : Nat) : (sc_sh σ e m).2.1 18 i 0 = if e ≤ i ∧ i < e + m then σ.2.1 18 (i + 1) 0 else σ.2.1 18 i 0 :=
  sh_gen sc_m1 sc_sh (fun _ _ => rfl) (fun _ _ _ => rfl) (fun σ i => σ.2.1 18 i 0) (fun σ e i => by simp (decide := true) only [sc_m1, sc_ad, gs_i, gs_n, gs_u_ne]; exact gu_0) m σ e i
theorem sh_1_127 {σ : gs_T} {e m : Nat} (i : Nat) : (sm_sh σ e m).1 127 i 0 = if e ≤ i ∧ i < e + m then σ.1 127 (i + 1) 0 else σ.1 127 i 0 :=
  sh_gen (fun σ e => sm_move σ (e + 1) e) sm_sh (fun _ _ => rfl) (fun _ _ _ => rfl) (fun σ i => σ.1 127 i 0) (fun σ e i => by simp (decide := true) only [sm_move, gs_i, gs_n, gs_u_ne]; exact gu_0) m σ e i
theorem bs_1_127 {μ : gs_T} {j : Nat} (i : Nat) : (sm_bs μ j).1 127 i 0 = if j ≤ i ∧ i < j + (μ.1 125 0 0 - 1 - j) then (if i + 1 = 399 then μ.1 127 j 0 else μ.1 127 (i + 1) 0) else (if i = 399 then μ.1 127 j 0 else μ.1 127 i 0) := by
  have e : ∀ q, (gs_n (sm_move μ j 399) 125 0 0 (μ.1 125 0 0 - 1)).1 127 q 0 = if q = 399 then μ.1 127 j 0 else μ.1 127 q 0 := fun q => by simp (decide := true) only [sm_move, gs_i, gs_n, gs_u_ne]; exact gu_0
  rw [sm_bs, sh_1_127, e, e]
theorem sh_1_128 {σ : gs_T} {e m : Nat} (i : Nat) : (sm_sh σ e m).1 128 i 0 = if e ≤ i ∧ i < e + m then σ.1 128 (i + 1) 0 else σ.1 128 i 0 :=
  sh_gen (fun σ e => sm_move σ (e + 1) e) sm_sh (fun _ _ => rfl) (fun _ _ _ => rfl) (fun σ i => σ.1 128 i 0) (fun σ e i => by simp (decide := true) only [sm_move, gs_i, gs_n, gs_u_ne]; exact gu_0) m σ e i
theorem bs_1_128 {μ : gs_T} {j : Nat} (i : Nat) : (sm_bs μ j).1 128 i 0 = if j ≤ i ∧ i < j + (μ.1 125 0 0 - 1 - j) then (if i + 1 = 399 then μ.1 128 j 0 else μ.1 128 (i + 1) 0) else (if i = 399 then μ.1 128 j 0 else μ.1 128 i 0) := by
  have e : ∀ q, (gs_n (sm_move μ j 399) 125 0 0 (μ.1 125 0 0 - 1)).1 128 q 0 = if q = 399 then μ.1 128 j 0 else μ.1 128 q 0 := fun q => by simp (decide := true) only [sm_move, gs_i, gs_n, gs_u_ne]; exact gu_0
  rw [sm_bs, sh_1_128, e, e]
theorem sh_1_129 {σ : gs_T} {e m : Nat} (i : Nat) : (sm_sh σ e m).1 129 i 0 = if e ≤ i ∧ i < e + m then σ.1 129 (i + 1) 0 else σ.1 129 i 0 :=
  sh_gen (fun σ e => sm_move σ (e + 1) e) sm_sh (fun _ _ => rfl) (fun _ _ _ => rfl) (fun σ i => σ.1 129 i 0) (fun σ e i => by simp (decide := true) only [sm_move, gs_i, gs_n, gs_u_ne]; exact gu_0) m σ e i
theorem bs_1_129 {μ : gs_T} {j : Nat} (i : Nat) : (sm_bs μ j).1 129 i 0 = if j ≤ i ∧ i < j + (μ.1 125 0 0 - 1 - j) then (if i + 1 = 399 then μ.1 129 j 0 else μ.1 129 (i + 1) 0) else (if i = 399 then μ.1 129 j 0 else μ.1 129 i 0) := by
  have e : ∀ q, (gs_n (sm_move μ j 399) 125 0 0 (μ.1 125 0 0 - 1)).1 129 q 0 = if q = 399 then μ.1 129 j 0 else μ.1 129 q 0 := fun q => by simp (decide := true) only [sm_move, gs_i, gs_n, gs_u_ne]; exact gu_0
  rw [sm_bs, sh_1_129, e, e]
theorem sh_2_1_126 {σ : gs_T} {e m : Nat} (i : Nat) : (sm_sh σ e m).2.1 126 i 0 = if e ≤ i ∧ i < e + m then σ.2.1 126 (i + 1) 0 else σ.2.1 126 i 0 :=
  sh_gen (fun σ e => sm_move σ (e + 1) e) sm_sh (fun _ _ => rfl) (fun _ _ _ => rfl) (fun σ i => σ.2.1 126 i 0) (fun σ e i => by simp (decide := true) only [sm_move, gs_i, gs_n, gs_u_ne]; exact gu_0) m σ e i
theorem bs_2_1_126 {μ : gs_T} {j : Nat} (i : Nat) : (sm_bs μ j).2.1 126 i 0 = if j ≤ i ∧ i < j + (μ.1 125 0 0 - 1 - j) then (if i + 1 = 399 then μ.2.1 126 j 0 else μ.2.1 126 (i + 1) 0) else (if i = 399 then μ.2.1 126 j 0 else μ.2.1 126 i 0) := by
  have e : ∀ q, (gs_n (sm_move μ j 399) 125 0 0 (μ.1 125 0 0 - 1)).2.1 126 q 0 = if q = 399 then μ.2.1 126 j 0 else μ.2.1 126 q 0 := fun q => by simp (decide := true) only [sm_move, gs_i, gs_n, gs_u_ne]; exact gu_0
  rw [sm_bs, sh_2_1_126, e, e]
theorem sh_2_1_130 {σ : gs_T} {e m : Nat} (i : Nat) : (sm_sh σ e m).2.1 130 i 0 = if e ≤ i ∧ i < e + m then σ.2.1 130 (i + 1) 0 else σ.2.1 130 i 0 :=
  sh_gen (fun σ e => sm_move σ (e + 1) e) sm_sh (fun _ _ => rfl) (fun _ _ _ => rfl) (fun σ i => σ.2.1 130 i 0) (fun σ e i => by simp (decide := true) only [sm_move, gs_i, gs_n, gs_u_ne]; exact gu_0) m σ e i
theorem bs_2_1_130 {μ : gs_T} {j : Nat} (i : Nat) : (sm_bs μ j).2.1 130 i 0 = if j ≤ i ∧ i < j + (μ.1 125 0 0 - 1 - j) then (if i + 1 = 399 then μ.2.1 130 j 0 else μ.2.1 130 (i + 1) 0) else (if i = 399 then μ.2.1 130 j 0 else μ.2.1 130 i 0) := by
  have e : ∀ q, (gs_n (sm_move μ j 399) 125 0 0 (μ.1 125 0 0 - 1)).2.1 130 q 0 = if q = 399 then μ.2.1 130 j 0 else μ.2.1 130 q 0 := fun q => by simp (decide := true) only [sm_move, gs_i, gs_n, gs_u_ne]; exact gu_0
  rw [sm_bs, sh_2_1_130, e, e]
theorem sh_2_1_131 {σ : gs_T} {e m : Nat} (i : Nat) : (sm_sh σ e m).2.1 131 i 0 = if e ≤ i ∧ i < e + m then σ.2.1 131 (i + 1) 0 else σ.2.1 131 i 0 :=
  sh_gen (fun σ e => sm_move σ (e + 1) e) sm_sh (fun _ _ => rfl) (fun _ _ _ => rfl) (fun σ i => σ.2.1 131 i 0) (fun σ e i => by simp (decide := true) only [sm_move, gs_i, gs_n, gs_u_ne]; exact gu_0) m σ e i
theorem bs_2_1_131 {μ : gs_T} {j : Nat} (i : Nat) : (sm_bs μ j).2.1 131 i 0 = if j ≤ i ∧ i < j + (μ.1 125 0 0 - 1 - j) then (if i + 1 = 399 then μ.2.1 131 j 0 else μ.2.1 131 (i + 1) 0) else (if i = 399 then μ.2.1 131 j 0 else μ.2.1 131 i 0) := by
  have e : ∀ q, (gs_n (sm_move μ j 399) 125 0 0 (μ.1 125 0 0 - 1)).2.1 131 q 0 = if q = 399 then μ.2.1 131 j 0 else μ.2.1 131 q 0 := fun q => by simp (decide := true) only [sm_move, gs_i, gs_n, gs_u_ne]; exact gu_0
  rw [sm_bs, sh_2_1_131, e, e]
theorem sh_2_1_132 {σ : gs_T} {e m : Nat} (i : Nat) : (sm_sh σ e m).2.1 132 i 0 = if e ≤ i ∧ i < e + m then σ.2.1 132 (i + 1) 0 else σ.2.1 132 i 0 :=
  sh_gen (fun σ e => sm_move σ (e + 1) e) sm_sh (fun _ _ => rfl) (fun _ _ _ => rfl) (fun σ i => σ.2.1 132 i 0) (fun σ e i => by simp (decide := true) only [sm_move, gs_i, gs_n, gs_u_ne]; exact gu_0) m σ e i
theorem bs_2_1_132 {μ : gs_T} {j : Nat} (i : Nat) : (sm_bs μ j).2.1 132 i 0 = if j ≤ i ∧ i < j + (μ.1 125 0 0 - 1 - j) then (if i + 1 = 399 then μ.2.1 132 j 0 else μ.2.1 132 (i + 1) 0) else (if i = 399 then μ.2.1 132 j 0 else μ.2.1 132 i 0) := by
  have e : ∀ q, (gs_n (sm_move μ j 399) 125 0 0 (μ.1 125 0 0 - 1)).2.1 132 q 0 = if q = 399 then μ.2.1 132 j 0 else μ.2.1 132 q 0 := fun q => by simp (decide := true) only [sm_move, gs_i, gs_n, gs_u_ne]; exact gu_0
  rw [sm_bs, sh_2_1_132, e, e]
set_option maxHeartbeats 4000000 in
theorem jH_step {τ μ : gs_T} {V : Nat → Nat → Nat → Int32} (K : jj_K τ μ V) {i : Nat} : jj_K (sc_hd τ i) μ V := by
  have J : jj_J τ μ := ⟨K.1, K.2.1, V, K.2.2⟩
  obtain ⟨τ', hT⟩ : ∃ t, t = (sc_hd τ i) := ⟨_, rfl⟩
  obtain ⟨μ', hM⟩ : ∃ t, t = μ := ⟨_, rfl⟩
  rw [← hT, ← hM]
  have n0 : τ'.1 0 = τ.1 0 := by rw [hT]; simp (decide := true) only [gs_i, gs_n, gs_l, gs_u_ne, sc_hd]
  have n1 : τ'.1 1 = τ.1 1 := by rw [hT]; simp (decide := true) only [gs_i, gs_n, gs_l, gs_u_ne, sc_hd]
  have n2 : τ'.1 2 = τ.1 2 := by rw [hT]; simp (decide := true) only [gs_i, gs_n, gs_l, gs_u_ne, sc_hd]
  have n3 : τ'.1 3 = τ.1 3 := by rw [hT]; simp (decide := true) only [gs_i, gs_n, gs_l, gs_u_ne, sc_hd]
  have n4 : τ'.1 4 = τ.1 4 := by rw [hT]; simp (decide := true) only [gs_i, gs_n, gs_l, gs_u_ne, sc_hd]
  have n5 : τ'.1 5 = τ.1 5 := by rw [hT]; simp (decide := true) only [gs_i, gs_n, gs_l, gs_u_ne, sc_hd]
  have n6 : τ'.1 6 = τ.1 6 := by rw [hT]; simp (decide := true) only [gs_i, gs_n, gs_l, gs_u_ne, sc_hd]
  have n7 : τ'.1 7 = τ.1 7 := by rw [hT]; simp (decide := true) only [gs_i, gs_n, gs_l, gs_u_ne, sc_hd]
  have n8 : τ'.1 8 = τ.1 8 := by rw [hT]; simp (decide := true) only [gs_i, gs_n, gs_l, gs_u_ne, sc_hd]
  have n9 : τ'.1 9 = τ.1 9 := by rw [hT]; simp (decide := true) only [gs_i, gs_n, gs_l, gs_u_ne, sc_hd]
  have n12 : τ'.1 12 = τ.1 12 := by rw [hT]; simp (decide := true) only [gs_i, gs_n, gs_l, gs_u_ne, sc_hd]
  have n13 : τ'.1 13 = τ.1 13 := by rw [hT]; simp (decide := true) only [gs_i, gs_n, gs_l, gs_u_ne, sc_hd]
  have n14 : τ'.1 14 = τ.1 14 := by rw [hT]; simp (decide := true) only [gs_i, gs_n, gs_l, gs_u_ne, sc_hd]
  have i0 : τ'.2.1 0 = τ.2.1 0 := by rw [hT]; simp (decide := true) only [gs_i, gs_n, gs_l, gs_u_ne, sc_hd]
  have i1 : τ'.2.1 1 = τ.2.1 1 := by rw [hT]; simp (decide := true) only [gs_i, gs_n, gs_l, gs_u_ne, sc_hd]
  have i2 : τ'.2.1 2 = τ.2.1 2 := by rw [hT]; simp (decide := true) only [gs_i, gs_n, gs_l, gs_u_ne, sc_hd]
  have i3 : τ'.2.1 3 = τ.2.1 3 := by rw [hT]; simp (decide := true) only [gs_i, gs_n, gs_l, gs_u_ne, sc_hd]
  have i4 : τ'.2.1 4 = τ.2.1 4 := by rw [hT]; simp (decide := true) only [gs_i, gs_n, gs_l, gs_u_ne, sc_hd]
  have i5 : τ'.2.1 5 = τ.2.1 5 := by rw [hT]; simp (decide := true) only [gs_i, gs_n, gs_l, gs_u_ne, sc_hd]
  have i6 : τ'.2.1 6 = τ.2.1 6 := by rw [hT]; simp (decide := true) only [gs_i, gs_n, gs_l, gs_u_ne, sc_hd]
  have i7 : τ'.2.1 7 = τ.2.1 7 := by rw [hT]; simp (decide := true) only [gs_i, gs_n, gs_l, gs_u_ne, sc_hd]
  have i8 : τ'.2.1 8 = τ.2.1 8 := by rw [hT]; simp (decide := true) only [gs_i, gs_n, gs_l, gs_u_ne, sc_hd]
  have i9 : τ'.2.1 9 = τ.2.1 9 := by rw [hT]; simp (decide := true) only [gs_i, gs_n, gs_l, gs_u_ne, sc_hd]
  have i10 : τ'.2.1 10 = τ.2.1 10 := by rw [hT]; simp (decide := true) only [gs_i, gs_n, gs_l, gs_u_ne, sc_hd]
  have i11 : τ'.2.1 11 = τ.2.1 11 := by rw [hT]; simp (decide := true) only [gs_i, gs_n, gs_l, gs_u_ne, sc_hd]
  have i12 : τ'.2.1 12 = τ.2.1 12 := by rw [hT]; simp (decide := true) only [gs_i, gs_n, gs_l, gs_u_ne, sc_hd]
  have i13 : τ'.2.1 13 = τ.2.1 13 := by rw [hT]; simp (decide := true) only [gs_i, gs_n, gs_l, gs_u_ne, sc_hd]
  have i14 : τ'.2.1 14 = τ.2.1 14 := by rw [hT]; simp (decide := true) only [gs_i, gs_n, gs_l, gs_u_ne, sc_hd]
  have i15 : τ'.2.1 15 = τ.2.1 15 := by rw [hT]; simp (decide := true) only [gs_i, gs_n, gs_l, gs_u_ne, sc_hd]
  have i16 : τ'.2.1 16 = τ.2.1 16 := by rw [hT]; simp (decide := true) only [gs_i, gs_n, gs_l, gs_u_ne, sc_hd]
  have i17 : τ'.2.1 17 = τ.2.1 17 := by rw [hT]; simp (decide := true) only [gs_i, gs_n, gs_l, gs_u_ne, sc_hd]
  have i18 : τ'.2.1 18 = τ.2.1 18 := by rw [hT]; simp (decide := true) only [gs_i, gs_n, gs_l, gs_u_ne, sc_hd]
  have i19 : τ'.2.1 19 = τ.2.1 19 := by rw [hT]; simp (decide := true) only [gs_i, gs_n, gs_l, gs_u_ne, sc_hd]
  have i20 : τ'.2.1 20 = τ.2.1 20 := by rw [hT]; simp (decide := true) only [gs_i, gs_n, gs_l, gs_u_ne, sc_hd]
  have l0 : τ'.2.2 = τ.2.2 := by rw [hT]; simp (decide := true) only [gs_i, gs_n, gs_l, gs_u_ne, sc_hd]
  have m31 : μ'.1 31 = μ.1 31 := by rw [hM]
  have m100 : μ'.1 100 = μ.1 100 := by rw [hM]
  have m104 : μ'.1 104 = μ.1 104 := by rw [hM]
  have m105 : μ'.1 105 = μ.1 105 := by rw [hM]
  have m107 : μ'.1 107 = μ.1 107 := by rw [hM]
  have m108 : μ'.1 108 = μ.1 108 := by rw [hM]
  have m123 : μ'.1 123 = μ.1 123 := by rw [hM]
  have m124 : μ'.1 124 = μ.1 124 := by rw [hM]
  have m125 : μ'.1 125 = μ.1 125 := by rw [hM]
  have m127 : μ'.1 127 = μ.1 127 := by rw [hM]
  have m128 : μ'.1 128 = μ.1 128 := by rw [hM]
  have m129 : μ'.1 129 = μ.1 129 := by rw [hM]
  have k101 : μ'.2.1 101 = μ.2.1 101 := by rw [hM]
  have k102 : μ'.2.1 102 = μ.2.1 102 := by rw [hM]
  have k103 : μ'.2.1 103 = μ.2.1 103 := by rw [hM]
  have k106 : μ'.2.1 106 = μ.2.1 106 := by rw [hM]
  have k109 : μ'.2.1 109 = μ.2.1 109 := by rw [hM]
  have k110 : μ'.2.1 110 = μ.2.1 110 := by rw [hM]
  have k111 : μ'.2.1 111 = μ.2.1 111 := by rw [hM]
  have k112 : μ'.2.1 112 = μ.2.1 112 := by rw [hM]
  have k113 : μ'.2.1 113 = μ.2.1 113 := by rw [hM]
  have k114 : μ'.2.1 114 = μ.2.1 114 := by rw [hM]
  have k115 : μ'.2.1 115 = μ.2.1 115 := by rw [hM]
  have k116 : μ'.2.1 116 = μ.2.1 116 := by rw [hM]
  have k117 : μ'.2.1 117 = μ.2.1 117 := by rw [hM]
  have k118 : μ'.2.1 118 = μ.2.1 118 := by rw [hM]
  have k119 : μ'.2.1 119 = μ.2.1 119 := by rw [hM]
  have k120 : μ'.2.1 120 = μ.2.1 120 := by rw [hM]
  have k121 : μ'.2.1 121 = μ.2.1 121 := by rw [hM]
  have k122 : μ'.2.1 122 = μ.2.1 122 := by rw [hM]
  have k126 : μ'.2.1 126 = μ.2.1 126 := by rw [hM]
  have k130 : μ'.2.1 130 = μ.2.1 130 := by rw [hM]
  have k131 : μ'.2.1 131 = μ.2.1 131 := by rw [hM]
  have k132 : μ'.2.1 132 = μ.2.1 132 := by rw [hM]
  have k133 : μ'.2.1 133 = μ.2.1 133 := by rw [hM]
  obtain ⟨⟨kA, kO, kG, kV, kT, kP, kZ, kM⟩, ⟨W, S, T, L, R, Wk, A, F⟩, G⟩ := K
  refine ⟨⟨?_, ?_, ?_, ?_, ?_, ?_, ?_, ?_⟩, ⟨?_, ?_, ?_, ?_, ?_, ?_, ?_, ?_⟩, ?_⟩
  · refine ⟨?_, ?_, ?_, ?_, ?_, ?_⟩
    · rw [m100, n0]; exact kA.1
    · rw [m104, n1]; exact kA.2.1
    · rw [m125, n2]; exact kA.2.2.1
    · rw [k133, i5]; exact kA.2.2.2.1
    · rw [hM]; exact kA.2.2.2.2.1
    · rw [m31]; exact kA.2.2.2.2.2
  · exact jj_O_fr n1 n12 n13 n14 i0 i1 i2 i3 i4 m105 m107 m108 k106 k109 k110 k111 k112 kO
  · exact jj_G_fr n0 i6 i7 k101 k102 kG
  · exact jj_V_fr i19 i20 k103 k113 kV
  · exact jj_T_fr n0 n3 n5 m123 m124 kT
  · exact jj_P_fr n0 n6 n7 n13 i8 i9 i10 i11 i12 i13 i14 i15 k114 k115 k116 k117 k118 k119 k120 k121 k122 kP
  · exact jj_Z_fr n0 n6 k114 k115 k116 k117 k118 k119 k120 kZ
  · exact jj_M_fr n0 n2 n7 n8 n9 n13 i16 i17 i18 m127 m128 m129 k126 k130 k131 k132 kM
  · rw [hT]
    exact gw_hd W i
  · exact pp_S_fr n0 n1 n6 n7 n13 n14 i0 S
  · exact pp_T_fr n1 n6 n7 i2 i5 i7 i8 i9 i10 i20 T
  · exact pp_L_fr n2 n7 n8 n9 i8 i16 i18 L
  · exact pp_R_fr n0 n3 n5 n6 i8 i10 i11 R
  · exact pp_W_fr n0 n3 n4 n5 n6 i11 i12 i15 Wk
  · exact pp_A_fr n1 n3 n4 n5 n6 n12 i2 i3 i10 i15 i20 l0 A
  · exact pp_F_fr n1 n2 n6 i8 i12 F
  · exact pp_G_fr n0 n1 n2 n3 n4 n5 n6 n7 n8 n9 n13 n14 i0 i1 i3 i4 i12 i13 i14 i16 i18 i19 G
set_option maxHeartbeats 4000000 in
theorem jC_step {τ μ : gs_T} {V : Nat → Nat → Nat → Int32} (K : jj_K τ μ V) (hb : (τ.2.1 5 0 0).toInt + 1 < 2 ^ 20) : jj_K (gs_i τ 5 0 0 (τ.2.1 5 0 0 + 1)) (gs_i μ 133 0 0 (μ.2.1 133 0 0 + 1)) V := by
  have J : jj_J τ μ := ⟨K.1, K.2.1, V, K.2.2⟩
  obtain ⟨τ', hT⟩ : ∃ t, t = (gs_i τ 5 0 0 (τ.2.1 5 0 0 + 1)) := ⟨_, rfl⟩
  obtain ⟨μ', hM⟩ : ∃ t, t = (gs_i μ 133 0 0 (μ.2.1 133 0 0 + 1)) := ⟨_, rfl⟩
  rw [← hT, ← hM]
  have n0 : τ'.1 0 = τ.1 0 := by rw [hT]; simp (decide := true) only [gs_i, gs_n, gs_l, gs_u_ne]
  have n1 : τ'.1 1 = τ.1 1 := by rw [hT]; simp (decide := true) only [gs_i, gs_n, gs_l, gs_u_ne]
  have n2 : τ'.1 2 = τ.1 2 := by rw [hT]; simp (decide := true) only [gs_i, gs_n, gs_l, gs_u_ne]
  have n3 : τ'.1 3 = τ.1 3 := by rw [hT]; simp (decide := true) only [gs_i, gs_n, gs_l, gs_u_ne]
  have n4 : τ'.1 4 = τ.1 4 := by rw [hT]; simp (decide := true) only [gs_i, gs_n, gs_l, gs_u_ne]
  have n5 : τ'.1 5 = τ.1 5 := by rw [hT]; simp (decide := true) only [gs_i, gs_n, gs_l, gs_u_ne]
  have n6 : τ'.1 6 = τ.1 6 := by rw [hT]; simp (decide := true) only [gs_i, gs_n, gs_l, gs_u_ne]
  have n7 : τ'.1 7 = τ.1 7 := by rw [hT]; simp (decide := true) only [gs_i, gs_n, gs_l, gs_u_ne]
  have n8 : τ'.1 8 = τ.1 8 := by rw [hT]; simp (decide := true) only [gs_i, gs_n, gs_l, gs_u_ne]
  have n9 : τ'.1 9 = τ.1 9 := by rw [hT]; simp (decide := true) only [gs_i, gs_n, gs_l, gs_u_ne]
  have n12 : τ'.1 12 = τ.1 12 := by rw [hT]; simp (decide := true) only [gs_i, gs_n, gs_l, gs_u_ne]
  have n13 : τ'.1 13 = τ.1 13 := by rw [hT]; simp (decide := true) only [gs_i, gs_n, gs_l, gs_u_ne]
  have n14 : τ'.1 14 = τ.1 14 := by rw [hT]; simp (decide := true) only [gs_i, gs_n, gs_l, gs_u_ne]
  have i0 : τ'.2.1 0 = τ.2.1 0 := by rw [hT]; simp (decide := true) only [gs_i, gs_n, gs_l, gs_u_ne]
  have i1 : τ'.2.1 1 = τ.2.1 1 := by rw [hT]; simp (decide := true) only [gs_i, gs_n, gs_l, gs_u_ne]
  have i2 : τ'.2.1 2 = τ.2.1 2 := by rw [hT]; simp (decide := true) only [gs_i, gs_n, gs_l, gs_u_ne]
  have i3 : τ'.2.1 3 = τ.2.1 3 := by rw [hT]; simp (decide := true) only [gs_i, gs_n, gs_l, gs_u_ne]
  have i4 : τ'.2.1 4 = τ.2.1 4 := by rw [hT]; simp (decide := true) only [gs_i, gs_n, gs_l, gs_u_ne]
  have i6 : τ'.2.1 6 = τ.2.1 6 := by rw [hT]; simp (decide := true) only [gs_i, gs_n, gs_l, gs_u_ne]
  have i7 : τ'.2.1 7 = τ.2.1 7 := by rw [hT]; simp (decide := true) only [gs_i, gs_n, gs_l, gs_u_ne]
  have i8 : τ'.2.1 8 = τ.2.1 8 := by rw [hT]; simp (decide := true) only [gs_i, gs_n, gs_l, gs_u_ne]
  have i9 : τ'.2.1 9 = τ.2.1 9 := by rw [hT]; simp (decide := true) only [gs_i, gs_n, gs_l, gs_u_ne]
  have i10 : τ'.2.1 10 = τ.2.1 10 := by rw [hT]; simp (decide := true) only [gs_i, gs_n, gs_l, gs_u_ne]
  have i11 : τ'.2.1 11 = τ.2.1 11 := by rw [hT]; simp (decide := true) only [gs_i, gs_n, gs_l, gs_u_ne]
  have i12 : τ'.2.1 12 = τ.2.1 12 := by rw [hT]; simp (decide := true) only [gs_i, gs_n, gs_l, gs_u_ne]
  have i13 : τ'.2.1 13 = τ.2.1 13 := by rw [hT]; simp (decide := true) only [gs_i, gs_n, gs_l, gs_u_ne]
  have i14 : τ'.2.1 14 = τ.2.1 14 := by rw [hT]; simp (decide := true) only [gs_i, gs_n, gs_l, gs_u_ne]
  have i15 : τ'.2.1 15 = τ.2.1 15 := by rw [hT]; simp (decide := true) only [gs_i, gs_n, gs_l, gs_u_ne]
  have i16 : τ'.2.1 16 = τ.2.1 16 := by rw [hT]; simp (decide := true) only [gs_i, gs_n, gs_l, gs_u_ne]
  have i17 : τ'.2.1 17 = τ.2.1 17 := by rw [hT]; simp (decide := true) only [gs_i, gs_n, gs_l, gs_u_ne]
  have i18 : τ'.2.1 18 = τ.2.1 18 := by rw [hT]; simp (decide := true) only [gs_i, gs_n, gs_l, gs_u_ne]
  have i19 : τ'.2.1 19 = τ.2.1 19 := by rw [hT]; simp (decide := true) only [gs_i, gs_n, gs_l, gs_u_ne]
  have i20 : τ'.2.1 20 = τ.2.1 20 := by rw [hT]; simp (decide := true) only [gs_i, gs_n, gs_l, gs_u_ne]
  have l0 : τ'.2.2 = τ.2.2 := by rw [hT]; simp (decide := true) only [gs_i, gs_n, gs_l, gs_u_ne]
  have m31 : μ'.1 31 = μ.1 31 := by rw [hM]; simp (decide := true) only [gs_i, gs_n, gs_l, gs_u_ne]
  have m100 : μ'.1 100 = μ.1 100 := by rw [hM]; simp (decide := true) only [gs_i, gs_n, gs_l, gs_u_ne]
  have m104 : μ'.1 104 = μ.1 104 := by rw [hM]; simp (decide := true) only [gs_i, gs_n, gs_l, gs_u_ne]
  have m105 : μ'.1 105 = μ.1 105 := by rw [hM]; simp (decide := true) only [gs_i, gs_n, gs_l, gs_u_ne]
  have m107 : μ'.1 107 = μ.1 107 := by rw [hM]; simp (decide := true) only [gs_i, gs_n, gs_l, gs_u_ne]
  have m108 : μ'.1 108 = μ.1 108 := by rw [hM]; simp (decide := true) only [gs_i, gs_n, gs_l, gs_u_ne]
  have m123 : μ'.1 123 = μ.1 123 := by rw [hM]; simp (decide := true) only [gs_i, gs_n, gs_l, gs_u_ne]
  have m124 : μ'.1 124 = μ.1 124 := by rw [hM]; simp (decide := true) only [gs_i, gs_n, gs_l, gs_u_ne]
  have m125 : μ'.1 125 = μ.1 125 := by rw [hM]; simp (decide := true) only [gs_i, gs_n, gs_l, gs_u_ne]
  have m127 : μ'.1 127 = μ.1 127 := by rw [hM]; simp (decide := true) only [gs_i, gs_n, gs_l, gs_u_ne]
  have m128 : μ'.1 128 = μ.1 128 := by rw [hM]; simp (decide := true) only [gs_i, gs_n, gs_l, gs_u_ne]
  have m129 : μ'.1 129 = μ.1 129 := by rw [hM]; simp (decide := true) only [gs_i, gs_n, gs_l, gs_u_ne]
  have k101 : μ'.2.1 101 = μ.2.1 101 := by rw [hM]; simp (decide := true) only [gs_i, gs_n, gs_l, gs_u_ne]
  have k102 : μ'.2.1 102 = μ.2.1 102 := by rw [hM]; simp (decide := true) only [gs_i, gs_n, gs_l, gs_u_ne]
  have k103 : μ'.2.1 103 = μ.2.1 103 := by rw [hM]; simp (decide := true) only [gs_i, gs_n, gs_l, gs_u_ne]
  have k106 : μ'.2.1 106 = μ.2.1 106 := by rw [hM]; simp (decide := true) only [gs_i, gs_n, gs_l, gs_u_ne]
  have k109 : μ'.2.1 109 = μ.2.1 109 := by rw [hM]; simp (decide := true) only [gs_i, gs_n, gs_l, gs_u_ne]
  have k110 : μ'.2.1 110 = μ.2.1 110 := by rw [hM]; simp (decide := true) only [gs_i, gs_n, gs_l, gs_u_ne]
  have k111 : μ'.2.1 111 = μ.2.1 111 := by rw [hM]; simp (decide := true) only [gs_i, gs_n, gs_l, gs_u_ne]
  have k112 : μ'.2.1 112 = μ.2.1 112 := by rw [hM]; simp (decide := true) only [gs_i, gs_n, gs_l, gs_u_ne]
  have k113 : μ'.2.1 113 = μ.2.1 113 := by rw [hM]; simp (decide := true) only [gs_i, gs_n, gs_l, gs_u_ne]
  have k114 : μ'.2.1 114 = μ.2.1 114 := by rw [hM]; simp (decide := true) only [gs_i, gs_n, gs_l, gs_u_ne]
  have k115 : μ'.2.1 115 = μ.2.1 115 := by rw [hM]; simp (decide := true) only [gs_i, gs_n, gs_l, gs_u_ne]
  have k116 : μ'.2.1 116 = μ.2.1 116 := by rw [hM]; simp (decide := true) only [gs_i, gs_n, gs_l, gs_u_ne]
  have k117 : μ'.2.1 117 = μ.2.1 117 := by rw [hM]; simp (decide := true) only [gs_i, gs_n, gs_l, gs_u_ne]
  have k118 : μ'.2.1 118 = μ.2.1 118 := by rw [hM]; simp (decide := true) only [gs_i, gs_n, gs_l, gs_u_ne]
  have k119 : μ'.2.1 119 = μ.2.1 119 := by rw [hM]; simp (decide := true) only [gs_i, gs_n, gs_l, gs_u_ne]
  have k120 : μ'.2.1 120 = μ.2.1 120 := by rw [hM]; simp (decide := true) only [gs_i, gs_n, gs_l, gs_u_ne]
  have k121 : μ'.2.1 121 = μ.2.1 121 := by rw [hM]; simp (decide := true) only [gs_i, gs_n, gs_l, gs_u_ne]
  have k122 : μ'.2.1 122 = μ.2.1 122 := by rw [hM]; simp (decide := true) only [gs_i, gs_n, gs_l, gs_u_ne]
  have k126 : μ'.2.1 126 = μ.2.1 126 := by rw [hM]; simp (decide := true) only [gs_i, gs_n, gs_l, gs_u_ne]
  have k130 : μ'.2.1 130 = μ.2.1 130 := by rw [hM]; simp (decide := true) only [gs_i, gs_n, gs_l, gs_u_ne]
  have k131 : μ'.2.1 131 = μ.2.1 131 := by rw [hM]; simp (decide := true) only [gs_i, gs_n, gs_l, gs_u_ne]
  have k132 : μ'.2.1 132 = μ.2.1 132 := by rw [hM]; simp (decide := true) only [gs_i, gs_n, gs_l, gs_u_ne]
  have e5 : τ'.2.1 5 0 0 = τ.2.1 5 0 0 + 1 := by rw [hT]; simp (decide := true) only [gs_i, gs_u_at, and_self, if_true]
  have q133 : μ'.2.1 133 0 0 = μ.2.1 133 0 0 + 1 := by rw [hM]; simp (decide := true) only [gs_i, gs_u_at, and_self, if_true]
  obtain ⟨⟨kA, kO, kG, kV, kT, kP, kZ, kM⟩, ⟨W, S, T, L, R, Wk, A, F⟩, G⟩ := K
  refine ⟨⟨?_, ?_, ?_, ?_, ?_, ?_, ?_, ?_⟩, ⟨?_, ?_, ?_, ?_, ?_, ?_, ?_, ?_⟩, ?_⟩
  · refine ⟨by rw [m100, n0]; exact kA.1, by rw [m104, n1]; exact kA.2.1, by rw [m125, n2]; exact kA.2.2.1, by rw [q133, e5, kA.2.2.2.1], ?_, by rw [m31]; exact kA.2.2.2.2.2⟩
    rw [hM]; exact kA.2.2.2.2.1
  · exact jj_O_fr n1 n12 n13 n14 i0 i1 i2 i3 i4 m105 m107 m108 k106 k109 k110 k111 k112 kO
  · exact jj_G_fr n0 i6 i7 k101 k102 kG
  · exact jj_V_fr i19 i20 k103 k113 kV
  · exact jj_T_fr n0 n3 n5 m123 m124 kT
  · exact jj_P_fr n0 n6 n7 n13 i8 i9 i10 i11 i12 i13 i14 i15 k114 k115 k116 k117 k118 k119 k120 k121 k122 kP
  · exact jj_Z_fr n0 n6 k114 k115 k116 k117 k118 k119 k120 kZ
  · exact jj_M_fr n0 n2 n7 n8 n9 n13 i16 i17 i18 m127 m128 m129 k126 k130 k131 k132 kM
  · rw [hT]
    exact gw_of rfl W
  · exact pp_S_fr n0 n1 n6 n7 n13 n14 i0 S
  · obtain ⟨t1, t2, t3, t4, t5⟩ := T
    have e6 : (τ'.2.1 5 0 0).toInt = (τ.2.1 5 0 0).toInt + 1 := by rw [e5]; exact ti_inc t1.1 (by omega)
    refine ⟨by omega, fun g => ?_, fun c => ?_, fun y hy => ?_, by rw [n6, n7, i2, i7, i8, i9, i10]; exact t5⟩
    · have := t2 g; rw [i7]; omega
    · have := t3 c; rw [i20]; omega
    · rw [n1] at hy; have := t4 y hy; rw [i2]; omega
  · exact pp_L_fr n2 n7 n8 n9 i8 i16 i18 L
  · exact pp_R_fr n0 n3 n5 n6 i8 i10 i11 R
  · exact pp_W_fr n0 n3 n4 n5 n6 i11 i12 i15 Wk
  · exact pp_A_fr n1 n3 n4 n5 n6 n12 i2 i3 i10 i15 i20 l0 A
  · exact pp_F_fr n1 n2 n6 i8 i12 F
  · exact pp_G_fr n0 n1 n2 n3 n4 n5 n6 n7 n8 n9 n13 n14 i0 i1 i3 i4 i12 i13 i14 i16 i18 i19 G
set_option maxHeartbeats 4000000 in
theorem jD_step {τ μ : gs_T} {V : Nat → Nat → Nat → Int32} (K : jj_K τ μ V) {j : Nat} (hj : j < τ.1 2 0 0) : jj_K (sc_dr τ j) (sm_bs μ j) V := by
  have J : jj_J τ μ := ⟨K.1, K.2.1, V, K.2.2⟩
  have hn := jq_n J
  have hm2 : μ.1 125 0 0 = τ.1 2 0 0 := J.1.1.2.2.1
  obtain ⟨τ', hT⟩ : ∃ t, t = (sc_dr τ j) := ⟨_, rfl⟩
  obtain ⟨μ', hM⟩ : ∃ t, t = (sm_bs μ j) := ⟨_, rfl⟩
  rw [← hT, ← hM]
  have n0 : τ'.1 0 = τ.1 0 := by rw [hT]; simp (decide := true) only [gs_i, gs_n, gs_l, gs_u_ne, sc_dr, sm_bs, shk_n, shk_i, shk_l, smk_n, smk_i, sm_move]
  have n1 : τ'.1 1 = τ.1 1 := by rw [hT]; simp (decide := true) only [gs_i, gs_n, gs_l, gs_u_ne, sc_dr, sm_bs, shk_n, shk_i, shk_l, smk_n, smk_i, sm_move]
  have n3 : τ'.1 3 = τ.1 3 := by rw [hT]; simp (decide := true) only [gs_i, gs_n, gs_l, gs_u_ne, sc_dr, sm_bs, shk_n, shk_i, shk_l, smk_n, smk_i, sm_move]
  have n4 : τ'.1 4 = τ.1 4 := by rw [hT]; simp (decide := true) only [gs_i, gs_n, gs_l, gs_u_ne, sc_dr, sm_bs, shk_n, shk_i, shk_l, smk_n, smk_i, sm_move]
  have n5 : τ'.1 5 = τ.1 5 := by rw [hT]; simp (decide := true) only [gs_i, gs_n, gs_l, gs_u_ne, sc_dr, sm_bs, shk_n, shk_i, shk_l, smk_n, smk_i, sm_move]
  have n6 : τ'.1 6 = τ.1 6 := by rw [hT]; simp (decide := true) only [gs_i, gs_n, gs_l, gs_u_ne, sc_dr, sm_bs, shk_n, shk_i, shk_l, smk_n, smk_i, sm_move]
  have n7 : τ'.1 7 = τ.1 7 := by rw [hT]; simp (decide := true) only [gs_i, gs_n, gs_l, gs_u_ne, sc_dr, sm_bs, shk_n, shk_i, shk_l, smk_n, smk_i, sm_move]
  have n12 : τ'.1 12 = τ.1 12 := by rw [hT]; simp (decide := true) only [gs_i, gs_n, gs_l, gs_u_ne, sc_dr, sm_bs, shk_n, shk_i, shk_l, smk_n, smk_i, sm_move]
  have n13 : τ'.1 13 = τ.1 13 := by rw [hT]; simp (decide := true) only [gs_i, gs_n, gs_l, gs_u_ne, sc_dr, sm_bs, shk_n, shk_i, shk_l, smk_n, smk_i, sm_move]
  have n14 : τ'.1 14 = τ.1 14 := by rw [hT]; simp (decide := true) only [gs_i, gs_n, gs_l, gs_u_ne, sc_dr, sm_bs, shk_n, shk_i, shk_l, smk_n, smk_i, sm_move]
  have i0 : τ'.2.1 0 = τ.2.1 0 := by rw [hT]; simp (decide := true) only [gs_i, gs_n, gs_l, gs_u_ne, sc_dr, sm_bs, shk_n, shk_i, shk_l, smk_n, smk_i, sm_move]
  have i1 : τ'.2.1 1 = τ.2.1 1 := by rw [hT]; simp (decide := true) only [gs_i, gs_n, gs_l, gs_u_ne, sc_dr, sm_bs, shk_n, shk_i, shk_l, smk_n, smk_i, sm_move]
  have i2 : τ'.2.1 2 = τ.2.1 2 := by rw [hT]; simp (decide := true) only [gs_i, gs_n, gs_l, gs_u_ne, sc_dr, sm_bs, shk_n, shk_i, shk_l, smk_n, smk_i, sm_move]
  have i3 : τ'.2.1 3 = τ.2.1 3 := by rw [hT]; simp (decide := true) only [gs_i, gs_n, gs_l, gs_u_ne, sc_dr, sm_bs, shk_n, shk_i, shk_l, smk_n, smk_i, sm_move]
  have i4 : τ'.2.1 4 = τ.2.1 4 := by rw [hT]; simp (decide := true) only [gs_i, gs_n, gs_l, gs_u_ne, sc_dr, sm_bs, shk_n, shk_i, shk_l, smk_n, smk_i, sm_move]
  have i5 : τ'.2.1 5 = τ.2.1 5 := by rw [hT]; simp (decide := true) only [gs_i, gs_n, gs_l, gs_u_ne, sc_dr, sm_bs, shk_n, shk_i, shk_l, smk_n, smk_i, sm_move]
  have i6 : τ'.2.1 6 = τ.2.1 6 := by rw [hT]; simp (decide := true) only [gs_i, gs_n, gs_l, gs_u_ne, sc_dr, sm_bs, shk_n, shk_i, shk_l, smk_n, smk_i, sm_move]
  have i7 : τ'.2.1 7 = τ.2.1 7 := by rw [hT]; simp (decide := true) only [gs_i, gs_n, gs_l, gs_u_ne, sc_dr, sm_bs, shk_n, shk_i, shk_l, smk_n, smk_i, sm_move]
  have i8 : τ'.2.1 8 = τ.2.1 8 := by rw [hT]; simp (decide := true) only [gs_i, gs_n, gs_l, gs_u_ne, sc_dr, sm_bs, shk_n, shk_i, shk_l, smk_n, smk_i, sm_move]
  have i9 : τ'.2.1 9 = τ.2.1 9 := by rw [hT]; simp (decide := true) only [gs_i, gs_n, gs_l, gs_u_ne, sc_dr, sm_bs, shk_n, shk_i, shk_l, smk_n, smk_i, sm_move]
  have i10 : τ'.2.1 10 = τ.2.1 10 := by rw [hT]; simp (decide := true) only [gs_i, gs_n, gs_l, gs_u_ne, sc_dr, sm_bs, shk_n, shk_i, shk_l, smk_n, smk_i, sm_move]
  have i11 : τ'.2.1 11 = τ.2.1 11 := by rw [hT]; simp (decide := true) only [gs_i, gs_n, gs_l, gs_u_ne, sc_dr, sm_bs, shk_n, shk_i, shk_l, smk_n, smk_i, sm_move]
  have i12 : τ'.2.1 12 = τ.2.1 12 := by rw [hT]; simp (decide := true) only [gs_i, gs_n, gs_l, gs_u_ne, sc_dr, sm_bs, shk_n, shk_i, shk_l, smk_n, smk_i, sm_move]
  have i13 : τ'.2.1 13 = τ.2.1 13 := by rw [hT]; simp (decide := true) only [gs_i, gs_n, gs_l, gs_u_ne, sc_dr, sm_bs, shk_n, shk_i, shk_l, smk_n, smk_i, sm_move]
  have i14 : τ'.2.1 14 = τ.2.1 14 := by rw [hT]; simp (decide := true) only [gs_i, gs_n, gs_l, gs_u_ne, sc_dr, sm_bs, shk_n, shk_i, shk_l, smk_n, smk_i, sm_move]
  have i15 : τ'.2.1 15 = τ.2.1 15 := by rw [hT]; simp (decide := true) only [gs_i, gs_n, gs_l, gs_u_ne, sc_dr, sm_bs, shk_n, shk_i, shk_l, smk_n, smk_i, sm_move]
  have i19 : τ'.2.1 19 = τ.2.1 19 := by rw [hT]; simp (decide := true) only [gs_i, gs_n, gs_l, gs_u_ne, sc_dr, sm_bs, shk_n, shk_i, shk_l, smk_n, smk_i, sm_move]
  have i20 : τ'.2.1 20 = τ.2.1 20 := by rw [hT]; simp (decide := true) only [gs_i, gs_n, gs_l, gs_u_ne, sc_dr, sm_bs, shk_n, shk_i, shk_l, smk_n, smk_i, sm_move]
  have l0 : τ'.2.2 = τ.2.2 := by rw [hT]; simp (decide := true) only [gs_i, gs_n, gs_l, gs_u_ne, sc_dr, sm_bs, shk_n, shk_i, shk_l, smk_n, smk_i, sm_move]
  have m31 : μ'.1 31 = μ.1 31 := by rw [hM]; simp (decide := true) only [gs_i, gs_n, gs_l, gs_u_ne, sc_dr, sm_bs, shk_n, shk_i, shk_l, smk_n, smk_i, sm_move]
  have m100 : μ'.1 100 = μ.1 100 := by rw [hM]; simp (decide := true) only [gs_i, gs_n, gs_l, gs_u_ne, sc_dr, sm_bs, shk_n, shk_i, shk_l, smk_n, smk_i, sm_move]
  have m104 : μ'.1 104 = μ.1 104 := by rw [hM]; simp (decide := true) only [gs_i, gs_n, gs_l, gs_u_ne, sc_dr, sm_bs, shk_n, shk_i, shk_l, smk_n, smk_i, sm_move]
  have m105 : μ'.1 105 = μ.1 105 := by rw [hM]; simp (decide := true) only [gs_i, gs_n, gs_l, gs_u_ne, sc_dr, sm_bs, shk_n, shk_i, shk_l, smk_n, smk_i, sm_move]
  have m107 : μ'.1 107 = μ.1 107 := by rw [hM]; simp (decide := true) only [gs_i, gs_n, gs_l, gs_u_ne, sc_dr, sm_bs, shk_n, shk_i, shk_l, smk_n, smk_i, sm_move]
  have m108 : μ'.1 108 = μ.1 108 := by rw [hM]; simp (decide := true) only [gs_i, gs_n, gs_l, gs_u_ne, sc_dr, sm_bs, shk_n, shk_i, shk_l, smk_n, smk_i, sm_move]
  have m123 : μ'.1 123 = μ.1 123 := by rw [hM]; simp (decide := true) only [gs_i, gs_n, gs_l, gs_u_ne, sc_dr, sm_bs, shk_n, shk_i, shk_l, smk_n, smk_i, sm_move]
  have m124 : μ'.1 124 = μ.1 124 := by rw [hM]; simp (decide := true) only [gs_i, gs_n, gs_l, gs_u_ne, sc_dr, sm_bs, shk_n, shk_i, shk_l, smk_n, smk_i, sm_move]
  have k101 : μ'.2.1 101 = μ.2.1 101 := by rw [hM]; simp (decide := true) only [gs_i, gs_n, gs_l, gs_u_ne, sc_dr, sm_bs, shk_n, shk_i, shk_l, smk_n, smk_i, sm_move]
  have k102 : μ'.2.1 102 = μ.2.1 102 := by rw [hM]; simp (decide := true) only [gs_i, gs_n, gs_l, gs_u_ne, sc_dr, sm_bs, shk_n, shk_i, shk_l, smk_n, smk_i, sm_move]
  have k103 : μ'.2.1 103 = μ.2.1 103 := by rw [hM]; simp (decide := true) only [gs_i, gs_n, gs_l, gs_u_ne, sc_dr, sm_bs, shk_n, shk_i, shk_l, smk_n, smk_i, sm_move]
  have k106 : μ'.2.1 106 = μ.2.1 106 := by rw [hM]; simp (decide := true) only [gs_i, gs_n, gs_l, gs_u_ne, sc_dr, sm_bs, shk_n, shk_i, shk_l, smk_n, smk_i, sm_move]
  have k109 : μ'.2.1 109 = μ.2.1 109 := by rw [hM]; simp (decide := true) only [gs_i, gs_n, gs_l, gs_u_ne, sc_dr, sm_bs, shk_n, shk_i, shk_l, smk_n, smk_i, sm_move]
  have k110 : μ'.2.1 110 = μ.2.1 110 := by rw [hM]; simp (decide := true) only [gs_i, gs_n, gs_l, gs_u_ne, sc_dr, sm_bs, shk_n, shk_i, shk_l, smk_n, smk_i, sm_move]
  have k111 : μ'.2.1 111 = μ.2.1 111 := by rw [hM]; simp (decide := true) only [gs_i, gs_n, gs_l, gs_u_ne, sc_dr, sm_bs, shk_n, shk_i, shk_l, smk_n, smk_i, sm_move]
  have k112 : μ'.2.1 112 = μ.2.1 112 := by rw [hM]; simp (decide := true) only [gs_i, gs_n, gs_l, gs_u_ne, sc_dr, sm_bs, shk_n, shk_i, shk_l, smk_n, smk_i, sm_move]
  have k113 : μ'.2.1 113 = μ.2.1 113 := by rw [hM]; simp (decide := true) only [gs_i, gs_n, gs_l, gs_u_ne, sc_dr, sm_bs, shk_n, shk_i, shk_l, smk_n, smk_i, sm_move]
  have k114 : μ'.2.1 114 = μ.2.1 114 := by rw [hM]; simp (decide := true) only [gs_i, gs_n, gs_l, gs_u_ne, sc_dr, sm_bs, shk_n, shk_i, shk_l, smk_n, smk_i, sm_move]
  have k115 : μ'.2.1 115 = μ.2.1 115 := by rw [hM]; simp (decide := true) only [gs_i, gs_n, gs_l, gs_u_ne, sc_dr, sm_bs, shk_n, shk_i, shk_l, smk_n, smk_i, sm_move]
  have k116 : μ'.2.1 116 = μ.2.1 116 := by rw [hM]; simp (decide := true) only [gs_i, gs_n, gs_l, gs_u_ne, sc_dr, sm_bs, shk_n, shk_i, shk_l, smk_n, smk_i, sm_move]
  have k117 : μ'.2.1 117 = μ.2.1 117 := by rw [hM]; simp (decide := true) only [gs_i, gs_n, gs_l, gs_u_ne, sc_dr, sm_bs, shk_n, shk_i, shk_l, smk_n, smk_i, sm_move]
  have k118 : μ'.2.1 118 = μ.2.1 118 := by rw [hM]; simp (decide := true) only [gs_i, gs_n, gs_l, gs_u_ne, sc_dr, sm_bs, shk_n, shk_i, shk_l, smk_n, smk_i, sm_move]
  have k119 : μ'.2.1 119 = μ.2.1 119 := by rw [hM]; simp (decide := true) only [gs_i, gs_n, gs_l, gs_u_ne, sc_dr, sm_bs, shk_n, shk_i, shk_l, smk_n, smk_i, sm_move]
  have k120 : μ'.2.1 120 = μ.2.1 120 := by rw [hM]; simp (decide := true) only [gs_i, gs_n, gs_l, gs_u_ne, sc_dr, sm_bs, shk_n, shk_i, shk_l, smk_n, smk_i, sm_move]
  have k121 : μ'.2.1 121 = μ.2.1 121 := by rw [hM]; simp (decide := true) only [gs_i, gs_n, gs_l, gs_u_ne, sc_dr, sm_bs, shk_n, shk_i, shk_l, smk_n, smk_i, sm_move]
  have k122 : μ'.2.1 122 = μ.2.1 122 := by rw [hM]; simp (decide := true) only [gs_i, gs_n, gs_l, gs_u_ne, sc_dr, sm_bs, shk_n, shk_i, shk_l, smk_n, smk_i, sm_move]
  have k133 : μ'.2.1 133 = μ.2.1 133 := by rw [hM]; simp (decide := true) only [gs_i, gs_n, gs_l, gs_u_ne, sc_dr, sm_bs, shk_n, shk_i, shk_l, smk_n, smk_i, sm_move]
  have e2 : τ'.1 2 0 0 = τ.1 2 0 0 - 1 := by rw [hT]; simp (decide := true) only [sc_dr, gs_n, gs_u_ne, gs_u_at, and_self, if_true]
  have ed : ∀ i, i < τ.1 2 0 0 - 1 → ∃ d, d < τ.1 2 0 0 ∧ τ'.1 8 i 0 = τ.1 8 d 0 ∧ τ'.1 9 i 0 = τ.1 9 d 0 ∧ τ'.2.1 16 i 0 = τ.2.1 16 d 0 ∧ τ'.2.1 17 i 0 = τ.2.1 17 d 0 ∧ τ'.2.1 18 i 0 = τ.2.1 18 d 0 ∧ μ'.2.1 126 i 0 = μ.2.1 126 d 0 ∧ μ'.1 127 i 0 = μ.1 127 d 0 ∧ μ'.1 128 i 0 = μ.1 128 d 0 ∧ μ'.1 129 i 0 = μ.1 129 d 0 ∧ μ'.2.1 130 i 0 = μ.2.1 130 d 0 ∧ μ'.2.1 131 i 0 = μ.2.1 131 d 0 ∧ μ'.2.1 132 i 0 = μ.2.1 132 d 0 := fun i hi => by
    refine ⟨if j ≤ i then i + 1 else i, by split <;> omega, ?_, ?_, ?_, ?_, ?_, ?_, ?_, ?_, ?_, ?_, ?_, ?_⟩
    · rw [hT]; simp (decide := true) only [sc_dr, gs_n, gs_u_ne]; rw [sh_1_8]; by_cases h : j ≤ i
      · rw [if_pos ⟨h, by omega⟩, if_pos h]
      · rw [if_neg (by omega), if_neg h]
    · rw [hT]; simp (decide := true) only [sc_dr, gs_n, gs_u_ne]; rw [sh_1_9]; by_cases h : j ≤ i
      · rw [if_pos ⟨h, by omega⟩, if_pos h]
      · rw [if_neg (by omega), if_neg h]
    · rw [hT]; simp (decide := true) only [sc_dr, gs_n, gs_u_ne]; rw [sh_2_1_16]; by_cases h : j ≤ i
      · rw [if_pos ⟨h, by omega⟩, if_pos h]
      · rw [if_neg (by omega), if_neg h]
    · rw [hT]; simp (decide := true) only [sc_dr, gs_n, gs_u_ne]; rw [sh_2_1_17]; by_cases h : j ≤ i
      · rw [if_pos ⟨h, by omega⟩, if_pos h]
      · rw [if_neg (by omega), if_neg h]
    · rw [hT]; simp (decide := true) only [sc_dr, gs_n, gs_u_ne]; rw [sh_2_1_18]; by_cases h : j ≤ i
      · rw [if_pos ⟨h, by omega⟩, if_pos h]
      · rw [if_neg (by omega), if_neg h]
    · rw [hM, bs_2_1_126, hm2, if_neg (show ¬ i + 1 = 399 by omega), if_neg (show ¬ i = 399 by omega)]; by_cases h : j ≤ i
      · rw [if_pos ⟨h, by omega⟩, if_pos h]
      · rw [if_neg (by omega), if_neg h]
    · rw [hM, bs_1_127, hm2, if_neg (show ¬ i + 1 = 399 by omega), if_neg (show ¬ i = 399 by omega)]; by_cases h : j ≤ i
      · rw [if_pos ⟨h, by omega⟩, if_pos h]
      · rw [if_neg (by omega), if_neg h]
    · rw [hM, bs_1_128, hm2, if_neg (show ¬ i + 1 = 399 by omega), if_neg (show ¬ i = 399 by omega)]; by_cases h : j ≤ i
      · rw [if_pos ⟨h, by omega⟩, if_pos h]
      · rw [if_neg (by omega), if_neg h]
    · rw [hM, bs_1_129, hm2, if_neg (show ¬ i + 1 = 399 by omega), if_neg (show ¬ i = 399 by omega)]; by_cases h : j ≤ i
      · rw [if_pos ⟨h, by omega⟩, if_pos h]
      · rw [if_neg (by omega), if_neg h]
    · rw [hM, bs_2_1_130, hm2, if_neg (show ¬ i + 1 = 399 by omega), if_neg (show ¬ i = 399 by omega)]; by_cases h : j ≤ i
      · rw [if_pos ⟨h, by omega⟩, if_pos h]
      · rw [if_neg (by omega), if_neg h]
    · rw [hM, bs_2_1_131, hm2, if_neg (show ¬ i + 1 = 399 by omega), if_neg (show ¬ i = 399 by omega)]; by_cases h : j ≤ i
      · rw [if_pos ⟨h, by omega⟩, if_pos h]
      · rw [if_neg (by omega), if_neg h]
    · rw [hM, bs_2_1_132, hm2, if_neg (show ¬ i + 1 = 399 by omega), if_neg (show ¬ i = 399 by omega)]; by_cases h : j ≤ i
      · rw [if_pos ⟨h, by omega⟩, if_pos h]
      · rw [if_neg (by omega), if_neg h]
  have hpk : ∀ x y j, pp_k τ' x y j ↔ pp_k τ x y j := fun x y j => by unfold pp_k; rw [n3, n4, n5]
  obtain ⟨⟨kA, kO, kG, kV, kT, kP, kZ, kM⟩, ⟨W, S, T, L, R, Wk, A, F⟩, G⟩ := K
  refine ⟨⟨?_, ?_, ?_, ?_, ?_, ?_, ?_, ?_⟩, ⟨?_, ?_, ?_, ?_, ?_, ?_, ?_, ?_⟩, ?_⟩
  · have hb := gv_bs (j := j) kA.2.2.2.2.1
    refine ⟨by rw [m100, n0]; exact kA.1, by rw [m104, n1]; exact kA.2.1, by rw [e2, hM, hb.2.2.2, hm2], by rw [k133, i5]; exact kA.2.2.2.1, by rw [hM]; exact hb.1, by rw [m31]; exact kA.2.2.2.2.2⟩
  · exact jj_O_fr n1 n12 n13 n14 i0 i1 i2 i3 i4 m105 m107 m108 k106 k109 k110 k111 k112 kO
  · exact jj_G_fr n0 i6 i7 k101 k102 kG
  · exact jj_V_fr i19 i20 k103 k113 kV
  · exact jj_T_fr n0 n3 n5 m123 m124 kT
  · exact jj_P_fr n0 n6 n7 n13 i8 i9 i10 i11 i12 i13 i14 i15 k114 k115 k116 k117 k118 k119 k120 k121 k122 kP
  · exact jj_Z_fr n0 n6 k114 k115 k116 k117 k118 k119 k120 kZ
  · intro i hi
    rw [e2] at hi
    obtain ⟨d, hd, d8, d9, d16, d17, d18, d126, d127, d128, d129, d130, d131, d132⟩ := ed i hi
    have h9 := kM d hd
    unfold jj_m at h9 ⊢
    rw [d16, d17, d8, d9, d18, d126, d127, d128, d129, d130, d131, d132, n13, n0, n7]
    exact h9
  · rw [hT]
    exact gw_dr W hj
  · exact pp_S_fr n0 n1 n6 n7 n13 n14 i0 S
  · exact pp_T_fr n1 n6 n7 i2 i5 i7 i8 i9 i10 i20 T
  · intro i hi h16
    rw [e2] at hi
    obtain ⟨d, hd, d8, d9, d16, d17, d18, d126, d127, d128, d129, d130, d131, d132⟩ := ed i hi
    rw [d16] at h16
    rw [d18, d8, d9, n7, i8]
    exact L d hd h16
  · exact pp_R_fr n0 n3 n5 n6 i8 i10 i11 R
  · exact pp_W_fr n0 n3 n4 n5 n6 i11 i12 i15 Wk
  · exact pp_A_fr n1 n3 n4 n5 n6 n12 i2 i3 i10 i15 i20 l0 A
  · have F : τ.1 2 0 0 + ti_su (fun g => ti_su (fun o => pp_p τ g o) 40) 4 ≤ 6 * τ.1 1 0 0 := F
    show τ'.1 2 0 0 + ti_su (fun g => ti_su (fun o => pp_p τ' g o) 40) 4 ≤ 6 * τ'.1 1 0 0
    have e9 : pp_p τ' = pp_p τ := by funext x y; unfold pp_p; rw [n6, i8, i12]
    rw [e9, e2, n1]
    omega
  · obtain ⟨g1, g2, g3, g4, g5⟩ := G
    have e1 : sc_rp τ' = sc_rp τ := by funext o u v; exact sc_rp_fr n13 n14 i0 i1
    have e2' : pp_e τ' = pp_e τ := by funext o k u v w; exact sc_pe_fr n13 n14 i0 i1
    have e4 : sc_ky τ' = sc_ky τ := by funext g o; exact sc_ky_fr n0 n13 n14
    refine ⟨by rw [n0]; exact g1, by rw [n0, n4, i19]; exact g2, fun y ja jb hy hz pa pb2 => ?_, fun x y hxy => ?_, fun i hi hk2 => ?_⟩
    · rw [n1] at hy
      rw [i3] at hz
      rw [n0, n13, hpk] at pa
      rw [n0, n14, hpk] at pb2
      unfold pp_i
      rw [n0, n13, n14, i4, e1, e2']
      exact g3 y ja jb hy hz pa pb2
    · rw [n6] at hxy
      rw [i13, n7, i12, i14, e4]
      rcases g4 x y hxy with z | ⟨z1, z2, z3, z4⟩
      · exact Or.inl z
      · exact Or.inr ⟨z1, z2, z3, fun j hj => z4 j ((hpk _ _ _).mp hj)⟩
    · rw [e2] at hi
      obtain ⟨d, hd, d8, d9, d16, d17, d18, d126, d127, d128, d129, d130, d131, d132⟩ := ed i hi
      rw [d16] at hk2
      rw [n7, d8, d9, d18, i12, e4]
      have h9 := g5 d hd hk2
      exact ⟨h9.1, fun j hj => h9.2 j ((hpk _ _ _).mp hj)⟩
