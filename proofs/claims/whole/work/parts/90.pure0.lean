/-! pure: small things, and what a pair of states (the class's, the model's) keeps to -/
theorem ti_lt {x y : Int32} : x < y ↔ x.toInt < y.toInt := Int32.lt_iff_toInt_lt
theorem ti_le {x y : Int32} : x ≤ y ↔ x.toInt ≤ y.toInt := Int32.le_iff_toInt_le
theorem ti_eq {x y : Int32} : x = y ↔ x.toInt = y.toInt := Int32.toInt_inj.symm
theorem ti_m1 : (-1 : Int32).toInt = -1 := by decide
theorem ti_0 : (0 : Int32).toInt = 0 := by decide
theorem ti_1 : (1 : Int32).toInt = 1 := by decide
theorem ti_mx (x y : Int32) : (gs_mx x y).toInt = max x.toInt y.toInt := by
  unfold gs_mx
  split
  · rename_i h; rw [ti_lt] at h; omega
  · rename_i h; rw [ti_lt] at h; omega
theorem ti_mg (x y : Int32) : gs_mg x y = gs_mx x y := by
  rw [ti_eq, ti_mx]
  unfold gs_mg
  split
  · rename_i h; rw [ti_le] at h; omega
  · rename_i h; rw [ti_le] at h; omega
theorem ti_inc {x : Int32} (h0 : 0 ≤ x.toInt) (h : x.toInt < 2 ^ 30) : (x + 1).toInt = x.toInt + 1 := by
  obtain ⟨n, hn, rfl⟩ := nI_of (x := x) (by rw [ti_lt, ti_0]; omega)
  rw [nI_toInt hn] at h ⊢
  rw [show nI n + 1 = nI (n + 1) from nI_1 _, nI_toInt (by omega)]
  omega
def ti_tm (x : Int32) : Int32 := if x = -1 then 0 else x
/-- how many i < m have p -/
def ti_cn (p : Nat → Prop) [DecidablePred p] (m : Nat) : Nat := match m with
  | 0 => 0
  | m + 1 => ti_cn p m + (if p m then 1 else 0)
theorem ti_cn_le (p : Nat → Prop) [DecidablePred p] (m : Nat) : ti_cn p m ≤ m := by
  induction m with
  | zero => exact Nat.le_refl _
  | succ m ih => rw [ti_cn]; split <;> omega
theorem ti_cn_congr {p q : Nat → Prop} [DecidablePred p] [DecidablePred q] {m : Nat} (h : ∀ i, i < m → (p i ↔ q i)) : ti_cn p m = ti_cn q m := by
  induction m with
  | zero => rfl
  | succ m ih =>
    rw [ti_cn, ti_cn, ih (fun i hi => h i (by omega))]
    by_cases hp : p m
    · rw [if_pos hp, if_pos ((h m (by omega)).mp hp)]
    · rw [if_neg hp, if_neg (fun z => hp ((h m (by omega)).mpr z))]
theorem ti_cn_mono {p q : Nat → Prop} [DecidablePred p] [DecidablePred q] {m : Nat} (h : ∀ i, i < m → p i → q i) : ti_cn p m ≤ ti_cn q m := by
  induction m with
  | zero => exact Nat.le_refl _
  | succ m ih =>
    rw [ti_cn, ti_cn]
    have := ih (fun i hi => h i (by omega))
    by_cases hp : p m
    · rw [if_pos hp, if_pos (h m (by omega) hp)]; omega
    · rw [if_neg hp]; omega
theorem ti_cn_add {p q : Nat → Prop} [DecidablePred p] [DecidablePred q] {m j : Nat} (hj : j < m) (hq : q j) (hp : ¬ p j) (h : ∀ i, i < m → i ≠ j → (q i ↔ p i)) : ti_cn q m = ti_cn p m + 1 := by
  induction m with
  | zero => omega
  | succ m ih =>
    rw [ti_cn, ti_cn]
    by_cases hm : j = m
    · subst hm
      rw [if_pos hq, if_neg hp, ti_cn_congr (fun i hi => h i (by omega) (by omega))]
    · rw [ih (by omega) (fun i hi => h i (by omega))]
      by_cases hpm : p m
      · rw [if_pos hpm, if_pos ((h m (by omega) (by omega)).mpr hpm)]
      · rw [if_neg hpm, if_neg (fun z => hpm ((h m (by omega) (by omega)).mp z))]
theorem ti_cn_lt {p : Nat → Prop} [DecidablePred p] {m j : Nat} (hj : j < m) (hp : ¬ p j) : ti_cn p m < m := by
  induction m with
  | zero => omega
  | succ m ih =>
    rw [ti_cn]
    by_cases hm : j = m
    · subst hm
      rw [if_neg hp]
      have := ti_cn_le p j
      omega
    · have := ih (by omega)
      split <;> omega
theorem ti_cn_sub {p q : Nat → Prop} [DecidablePred p] [DecidablePred q] {m j : Nat} (hj : j < m) (hq : q j) (hp : ¬ p j) (h : ∀ i, i < m → p i → q i) : ti_cn p m + 1 ≤ ti_cn q m := by
  induction m with
  | zero => omega
  | succ m ih =>
    rw [ti_cn, ti_cn]
    by_cases hm : j = m
    · subst hm
      rw [if_pos hq, if_neg hp]
      have := ti_cn_mono (p := p) (q := q) (m := j) (fun i hi => h i (by omega))
      omega
    · have h9 := ih (by omega) (fun i hi => h i (by omega))
      by_cases hpm : p m
      · rw [if_pos hpm, if_pos (h m (by omega) hpm)]; omega
      · rw [if_neg hpm]; omega
/-- a sum -/
def ti_su (f : Nat → Nat) (m : Nat) : Nat := match m with
  | 0 => 0
  | m + 1 => ti_su f m + f m
theorem ti_su_congr {f g : Nat → Nat} {m : Nat} (h : ∀ i, i < m → f i = g i) : ti_su f m = ti_su g m := by
  induction m with
  | zero => rfl
  | succ m ih => rw [ti_su, ti_su, ih (fun i hi => h i (by omega)), h m (by omega)]
theorem ti_su_le {f g : Nat → Nat} {m : Nat} (h : ∀ i, i < m → f i ≤ g i) : ti_su f m ≤ ti_su g m := by
  induction m with
  | zero => exact Nat.le_refl _
  | succ m ih =>
    have h1 := ih (fun i hi => h i (by omega))
    have h2 := h m (by omega)
    rw [ti_su, ti_su]
    omega
theorem ti_su_upd {f g : Nat → Nat} {m j : Nat} (hj : j < m) (h : ∀ i, i < m → i ≠ j → f i = g i) : ti_su f m + g j = ti_su g m + f j := by
  induction m with
  | zero => omega
  | succ m ih =>
    rw [ti_su, ti_su]
    by_cases hm : j = m
    · subst hm
      rw [ti_su_congr (fun i hi => h i (by omega) (by omega))]
      omega
    · have h1 := ih (by omega) (fun i hi => h i (by omega))
      have h2 := h m (by omega) (by omega)
      omega
theorem ix_in {g o g' o' : Nat} (h : o < 40) (h' : o' < 40) : 40 * g' + o' = 40 * g + o ↔ g' = g ∧ o' = o := by omega
theorem ix_in4 {g o q g' o' q' : Nat} (h : o < 40) (h' : o' < 40) (hq : q < 4) (hq' : q' < 4) : 4 * (40 * g' + o') + q' = 4 * (40 * g + o) + q ↔ g' = g ∧ o' = o ∧ q' = q := by omega
/-! the class's state and the model's: alike -/
def jj_A (τ μ : gs_T) : Prop := μ.1 100 0 0 = τ.1 0 0 0 ∧ μ.1 104 0 0 = τ.1 1 0 0 ∧ μ.1 125 0 0 = τ.1 2 0 0 ∧ μ.2.1 133 0 0 = τ.2.1 5 0 0 ∧ gv_V μ ∧ μ.1 31 0 0 = 1
def jj_O (τ μ : gs_T) : Prop := (∀ o, o < τ.1 1 0 0 → μ.1 105 o 0 = τ.1 12 o 0 ∧ μ.2.1 106 o 0 = τ.2.1 0 o 0 ∧ μ.1 107 o 0 = τ.1 13 o 0 ∧ τ.1 14 o 0 = (if τ.2.1 0 o 0 = 0 then τ.1 13 o 0 else μ.1 108 o 0) ∧ μ.2.1 109 o 0 = τ.2.1 1 o 0 ∧ μ.2.1 110 o 0 = τ.2.1 2 o 0 ∧ μ.2.1 111 o 0 = τ.2.1 3 o 0 ∧ (¬ τ.2.1 3 o 0 = 0 → μ.2.1 112 o 0 = τ.2.1 4 o 0)) ∧ ∀ o, τ.1 1 0 0 ≤ o → o < 40 → μ.2.1 111 o 0 = 0
def jj_G (τ μ : gs_T) : Prop := ∀ g, g < τ.1 0 0 0 → μ.2.1 101 g 0 = τ.2.1 7 g 0 ∧ μ.2.1 102 g 0 = (if τ.2.1 6 g 0 = 0 then 1 else 0)
def jj_V (τ μ : gs_T) : Prop := (∀ k, k < 16 → μ.2.1 103 k 0 = τ.2.1 19 k 0) ∧ ∀ c, c < 4 → μ.2.1 113 c 0 = τ.2.1 20 c 0
def jj_T (τ μ : gs_T) : Prop := ∀ g, g < τ.1 0 0 0 → μ.1 123 g 0 = τ.1 3 g 0 ∧ ∀ k, k < τ.1 3 g 0 → τ.1 5 g k = μ.1 124 (40 * g + k) 0 + 1
def jj_P (τ μ : gs_T) : Prop := ∀ g o, τ.1 6 g o = 1 → μ.2.1 114 (40 * g + o) 0 = (if τ.2.1 8 g o = -1 then 0 else 1) ∧ μ.2.1 119 (4 * (40 * g + o) + g) 0 = ti_tm (τ.2.1 8 g o) ∧ μ.2.1 115 (40 * g + o) 0 = ti_tm (τ.2.1 10 g o) ∧ μ.2.1 116 (40 * g + o) 0 = τ.2.1 11 g o ∧ μ.2.1 118 (40 * g + o) 0 = τ.2.1 15 g o ∧ ∀ q, τ.1 7 g o = q + 1 → μ.2.1 119 (4 * (40 * g + o) + q) 0 = ti_tm (τ.2.1 9 g o) ∧ μ.2.1 117 (40 * g + o) 0 = τ.2.1 12 g o ∧ μ.2.1 120 (4 * (40 * g + o) + q) 0 = τ.2.1 13 g o ∧ (¬ τ.2.1 13 g o = 0 → τ.2.1 14 g o = if τ.1 13 o 0 % τ.1 0 0 0 = q then μ.2.1 121 (4 * (40 * g + o) + q) 0 else μ.2.1 122 (4 * (40 * g + o) + q) 0)
def jj_Z (τ μ : gs_T) : Prop := ∀ g o, g < τ.1 0 0 0 → o < 40 → ¬ τ.1 6 g o = 1 → μ.2.1 114 (40 * g + o) 0 = 0 ∧ μ.2.1 115 (40 * g + o) 0 = 0 ∧ μ.2.1 116 (40 * g + o) 0 = 0 ∧ μ.2.1 117 (40 * g + o) 0 = 0 ∧ μ.2.1 118 (40 * g + o) 0 = 0 ∧ ∀ q, q < 4 → μ.2.1 119 (4 * (40 * g + o) + q) 0 = 0 ∧ μ.2.1 120 (4 * (40 * g + o) + q) 0 = 0
/-- a message of the class (kind, from, to's group and order, content) is the model's at i -/
def jj_m (τ μ : gs_T) (k f : Int32) (g o : Nat) (c : Int32) (i : Nat) : Prop := μ.2.1 126 i 0 = k ∧ μ.1 127 i 0 = o ∧ f = gs_sf (μ.1 128 i 0) ∧ μ.1 129 i 0 = g ∧ μ.2.1 130 i 0 = (if k = 1 then c else -1) ∧ (k = 2 → c = if τ.1 13 o 0 % τ.1 0 0 0 + 1 = μ.1 128 i 0 then μ.2.1 131 i 0 else μ.2.1 132 i 0) ∧ ((k = 0 ∧ μ.1 128 i 0 = 0) ∨ ((k = 1 ∨ k = 2) ∧ ¬ τ.1 7 g o = 0 ∧ μ.1 128 i 0 = τ.1 7 g o))
def jj_M (τ μ : gs_T) : Prop := ∀ i, i < τ.1 2 0 0 → jj_m τ μ (τ.2.1 16 i 0) (τ.2.1 17 i 0) (τ.1 8 i 0) (τ.1 9 i 0) (τ.2.1 18 i 0) i
/-! what the class's own state keeps to -/
def pp_S (τ : gs_T) : Prop := (∀ g o, τ.1 6 g o = 1 ↔ (o < τ.1 1 0 0 ∧ (g = τ.1 13 o 0 % τ.1 0 0 0 ∨ g = τ.1 14 o 0 % τ.1 0 0 0))) ∧ (∀ g o, τ.1 6 g o = 1 → τ.1 7 g o = if τ.1 13 o 0 % τ.1 0 0 0 = τ.1 14 o 0 % τ.1 0 0 0 then 0 else if g = τ.1 13 o 0 % τ.1 0 0 0 then τ.1 14 o 0 % τ.1 0 0 0 + 1 else τ.1 13 o 0 % τ.1 0 0 0 + 1) ∧ ∀ o, o < τ.1 1 0 0 → (τ.2.1 0 o 0 = 0 ∨ τ.2.1 0 o 0 = 1 ∨ τ.2.1 0 o 0 = 2 ∨ τ.2.1 0 o 0 = 3) ∧ (τ.2.1 0 o 0 = 0 → τ.1 14 o 0 = τ.1 13 o 0)
def pp_T (τ : gs_T) : Prop := (0 ≤ (τ.2.1 5 0 0).toInt ∧ (τ.2.1 5 0 0).toInt < 2 ^ 20) ∧ (∀ g, 0 ≤ (τ.2.1 7 g 0).toInt ∧ (τ.2.1 7 g 0).toInt ≤ (τ.2.1 5 0 0).toInt) ∧ (∀ c, 0 ≤ (τ.2.1 20 c 0).toInt ∧ (τ.2.1 20 c 0).toInt ≤ (τ.2.1 5 0 0).toInt) ∧ (∀ o, o < τ.1 1 0 0 → 0 ≤ (τ.2.1 2 o 0).toInt ∧ (τ.2.1 2 o 0).toInt ≤ (τ.2.1 5 0 0).toInt) ∧ ∀ g o, τ.1 6 g o = 1 → ((τ.2.1 8 g o).toInt = -1 ∨ ((τ.2.1 2 o 0).toInt < (τ.2.1 8 g o).toInt ∧ (τ.2.1 8 g o).toInt ≤ (τ.2.1 7 g 0).toInt)) ∧ ((τ.2.1 9 g o).toInt = -1 ∨ (¬ τ.1 7 g o = 0 ∧ (τ.2.1 9 g o).toInt = (τ.2.1 8 (τ.1 7 g o - 1) o).toInt ∧ ¬ (τ.2.1 9 g o).toInt = -1)) ∧ ((τ.2.1 10 g o).toInt = -1 ∨ (¬ (τ.2.1 8 g o).toInt = -1 ∧ (τ.1 7 g o = 0 ∨ ¬ (τ.2.1 9 g o).toInt = -1) ∧ (τ.2.1 10 g o).toInt = max (τ.2.1 8 g o).toInt (τ.2.1 9 g o).toInt ∧ (τ.2.1 10 g o).toInt ≤ (τ.2.1 7 g 0).toInt))
def pp_L (τ : gs_T) : Prop := ∀ i, i < τ.1 2 0 0 → τ.2.1 16 i 0 = 1 → τ.2.1 18 i 0 = τ.2.1 8 (τ.1 7 (τ.1 8 i 0) (τ.1 9 i 0) - 1) (τ.1 9 i 0) ∧ ¬ τ.2.1 18 i 0 = -1
/-- (x, p) comes before (y, q) -/
abbrev pp_b (x : Int) (p : Nat) (y : Int) (q : Nat) : Prop := x < y ∨ (x = y ∧ p < q)
def pp_R (τ : gs_T) : Prop := ∀ g, g < τ.1 0 0 0 → (∀ k o, k < τ.1 3 g 0 → τ.1 5 g k = o + 1 → τ.2.1 11 g o = 1 ∧ ¬ (τ.2.1 10 g o).toInt = -1) ∧ (∀ o, τ.1 6 g o = 1 → (τ.2.1 11 g o = 0 ∨ (τ.2.1 11 g o = 1 ∧ ∃ k, k < τ.1 3 g 0 ∧ τ.1 5 g k = o + 1))) ∧ (∀ j k p o, j < k → k < τ.1 3 g 0 → τ.1 5 g j = p + 1 → τ.1 5 g k = o + 1 → pp_b (τ.2.1 10 g p).toInt p (τ.2.1 10 g o).toInt o) ∧ (∀ k p o, k < τ.1 3 g 0 → τ.1 5 g k = p + 1 → τ.1 6 g o = 1 → ¬ (τ.2.1 8 g o).toInt = -1 → τ.2.1 11 g o = 0 → pp_b (τ.2.1 10 g p).toInt p (sc_lt τ g o).toInt o) ∧ τ.1 3 g 0 = ti_cn (fun o => τ.1 6 g o = 1 ∧ τ.2.1 11 g o = 1) 40
/-- order o stands in group g's row at k, and all before k is worked out -/
abbrev pp_k (τ : gs_T) (g o k : Nat) : Prop := k ≤ τ.1 4 g 0 ∧ k < τ.1 3 g 0 ∧ τ.1 5 g k = o + 1
def pp_W (τ : gs_T) : Prop := ∀ g, g < τ.1 0 0 0 → (∀ k o, k < τ.1 3 g 0 → τ.1 5 g k = o + 1 → τ.2.1 15 g o = if k < τ.1 4 g 0 then 1 else 0) ∧ (∀ o, τ.1 6 g o = 1 → τ.2.1 11 g o = 0 → τ.2.1 15 g o = 0) ∧ ∀ o, τ.1 6 g o = 1 → (τ.2.1 12 g o = 0 ∨ (τ.2.1 12 g o = 1 ∧ ∃ k, pp_k τ g o k))
def pp_A (τ : gs_T) : Prop := (∀ o, o < τ.1 1 0 0 → (τ.2.1 3 o 0 = 0 ∨ (τ.2.1 3 o 0 = 1 ∧ ∀ g, τ.1 6 g o = 1 → (∃ k, pp_k τ g o k) ∧ (τ.2.1 10 g o).toInt ≤ (τ.2.1 20 (τ.1 12 o 0) 0).toInt)) ∧ ∀ g, τ.1 6 g o = 1 → τ.2.1 15 g o = 1 → τ.2.1 3 o 0 = 1) ∧ ∀ o p, o < τ.1 1 0 0 → p < o → sc_fw τ o p → τ.2.1 3 p 0 = 1 ∧ ∀ g, τ.1 6 g p = 1 → (τ.2.1 10 g p).toInt ≤ (τ.2.1 2 o 0).toInt
/-- what key k has behind an order, if u and v are before it and w is what k had -/
def pp_e (τ : gs_T) (o k : Nat) (u v w : Int32) : Int32 := if k = τ.1 13 o 0 then sc_bA τ o u v else if k = τ.1 14 o 0 then sc_bB τ o u v else w
/-- the values that order o finds: V g j k is what key k of group g has behind the first j orders of its row -/
abbrev pp_i (τ : gs_T) (V : Nat → Nat → Nat → Int32) (o ja jb : Nat) : Int32 × Int32 := (V (τ.1 13 o 0 % τ.1 0 0 0) ja (τ.1 13 o 0), V (τ.1 14 o 0 % τ.1 0 0 0) jb (τ.1 14 o 0))
def pp_G (τ : gs_T) (V : Nat → Nat → Nat → Int32) : Prop := (∀ k, k < 16 → V (k % τ.1 0 0 0) 0 k = 100) ∧ (∀ k, k < 16 → V (k % τ.1 0 0 0) (τ.1 4 (k % τ.1 0 0 0) 0) k = τ.2.1 19 k 0) ∧ (∀ o ja jb, o < τ.1 1 0 0 → τ.2.1 3 o 0 = 1 → pp_k τ (τ.1 13 o 0 % τ.1 0 0 0) o ja → pp_k τ (τ.1 14 o 0 % τ.1 0 0 0) o jb → τ.2.1 4 o 0 = sc_rp τ o (pp_i τ V o ja jb).1 (pp_i τ V o ja jb).2 ∧ ∀ k, k < 16 → (k % τ.1 0 0 0 = τ.1 13 o 0 % τ.1 0 0 0 → V (k % τ.1 0 0 0) (ja + 1) k = pp_e τ o k (pp_i τ V o ja jb).1 (pp_i τ V o ja jb).2 (V (k % τ.1 0 0 0) ja k)) ∧ (k % τ.1 0 0 0 = τ.1 14 o 0 % τ.1 0 0 0 → V (k % τ.1 0 0 0) (jb + 1) k = pp_e τ o k (pp_i τ V o ja jb).1 (pp_i τ V o ja jb).2 (V (k % τ.1 0 0 0) jb k))) ∧ (∀ g o, τ.1 6 g o = 1 → (τ.2.1 13 g o = 0 ∨ (τ.2.1 13 g o = 1 ∧ ¬ τ.1 7 g o = 0 ∧ τ.2.1 12 (τ.1 7 g o - 1) o = 1 ∧ ∀ j, pp_k τ (τ.1 7 g o - 1) o j → τ.2.1 14 g o = V (τ.1 7 g o - 1) j (sc_ky τ (τ.1 7 g o - 1) o)))) ∧ ∀ i, i < τ.1 2 0 0 → τ.2.1 16 i 0 = 2 → τ.2.1 12 (τ.1 7 (τ.1 8 i 0) (τ.1 9 i 0) - 1) (τ.1 9 i 0) = 1 ∧ ∀ j, pp_k τ (τ.1 7 (τ.1 8 i 0) (τ.1 9 i 0) - 1) (τ.1 9 i 0) j → τ.2.1 18 i 0 = V (τ.1 7 (τ.1 8 i 0) (τ.1 9 i 0) - 1) j (sc_ky τ (τ.1 7 (τ.1 8 i 0) (τ.1 9 i 0) - 1) (τ.1 9 i 0))
/-- how many messages a part may still put -/
def pp_p (τ : gs_T) (g o : Nat) : Nat := if τ.1 6 g o = 1 then (if τ.2.1 8 g o = -1 then 1 else 0) + (if τ.2.1 12 g o = 0 then 1 else 0) else 0
def pp_F (τ : gs_T) : Prop := τ.1 2 0 0 + ti_su (fun g => ti_su (fun o => pp_p τ g o) 40) 4 ≤ 6 * τ.1 1 0 0
def jj_J (τ μ : gs_T) : Prop := (jj_A τ μ ∧ jj_O τ μ ∧ jj_G τ μ ∧ jj_V τ μ ∧ jj_T τ μ ∧ jj_P τ μ ∧ jj_Z τ μ ∧ jj_M τ μ) ∧ (gw_W τ ∧ pp_S τ ∧ pp_T τ ∧ pp_L τ ∧ pp_R τ ∧ pp_W τ ∧ pp_A τ ∧ pp_F τ) ∧ ∃ V, pp_G τ V
