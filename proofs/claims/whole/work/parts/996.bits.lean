/-! pure: the answered orders of a client, as bits -/
theorem fb_cmp {x y : Int64} : lg_cmp x y = 0 ↔ x = y := by
  unfold lg_cmp
  by_cases h : x > y
  · rw [if_pos h]
    refine ⟨fun z => absurd z (by decide), fun z => ?_⟩
    rw [z] at h
    exact absurd h (Int64.lt_irrefl)
  · rw [if_neg h]
    by_cases h2 : x = y
    · rw [if_pos h2]; exact ⟨fun _ => h2, fun _ => rfl⟩
    · rw [if_neg h2]; exact ⟨fun z => absurd z (by decide), fun z => absurd z h2⟩
theorem fb_s : ∀ e, e < 40 → (((nI e).toInt64 &&& 63).toBitVec.smod 64).toNat = e := by decide +kernel
theorem fb_bit (v : Int64) {e : Nat} (he : e < 40) : ((v >>> ((nI e).toInt64 &&& 63)) &&& 1 = 1) ↔ v.toBitVec.getLsbD e = true := by
  rw [← Int64.toBitVec_inj, Int64.toBitVec_and, Int64.toBitVec_shiftRight, BitVec.sshiftRight_eq', fb_s e he]
  have h1 : (1 : Int64).toBitVec = 1#64 := rfl
  have h0 : (v.toBitVec.sshiftRight e).getLsbD 0 = v.toBitVec.getLsbD e := by
    rw [BitVec.getLsbD_sshiftRight]
    simp
    omega
  rw [h1, ← h0]
  generalize v.toBitVec.sshiftRight e = w
  constructor
  · intro h
    have h2 := congrArg (fun x => x.getLsbD 0) h
    simpa using h2
  · intro h
    apply BitVec.eq_of_getLsbD_eq
    intro i hi
    by_cases hi0 : i = 0
    · subst hi0; simp [h]
    · simp [hi0]
theorem fb_or (v : Int64) {m e : Nat} (hm : m < 40) (he : e < 40) : (v ||| (1 <<< ((nI m).toInt64 &&& 63))).toBitVec.getLsbD e = true ↔ (v.toBitVec.getLsbD e = true ∨ e = m) := by
  have h1 : (1 : Int64).toBitVec = 1#64 := rfl
  rw [Int64.toBitVec_or, Int64.toBitVec_shiftLeft, BitVec.shiftLeft_eq', fb_s m hm, h1, BitVec.getLsbD_or, BitVec.getLsbD_shiftLeft, BitVec.getLsbD_one]
  simp
  constructor
  · intro h
    rcases h with h | h
    · exact Or.inl h
    · right; omega
  · intro h
    rcases h with h | h
    · exact Or.inl h
    · right; omega
theorem fb_ab {σ : gs_T} {x : Int32} : ∀ m, m ≤ 40 → ∀ e, e < 40 → ((sc_ab σ x m).toBitVec.getLsbD e = true ↔ (e < m ∧ nI (σ.1 12 e 0) = x ∧ ¬ σ.2.1 3 e 0 = 0)) := by
  intro m
  induction m with
  | zero =>
    intro _ e he
    have h0 : (sc_ab σ x 0).toBitVec = 0#64 := rfl
    rw [h0]
    simp
  | succ m ih =>
    intro hm e he
    have ih := ih (by omega) e he
    rw [sc_ab]
    by_cases hc : nI (σ.1 12 m 0) = x ∧ ¬ σ.2.1 3 m 0 = 0
    · rw [if_pos hc, fb_or _ (by omega) he, ih]
      constructor
      · intro h
        rcases h with h | h
        · exact ⟨by omega, h.2⟩
        · rw [h]; exact ⟨by omega, hc⟩
      · intro h
        by_cases hem : e = m
        · exact Or.inr hem
        · exact Or.inl ⟨by omega, h.2⟩
    · rw [if_neg hc, ih]
      constructor
      · intro h; exact ⟨by omega, h.2⟩
      · intro h
        refine ⟨?_, h.2⟩
        by_cases hem : e = m
        · rw [hem] at h; exact absurd h.2 hc
        · omega
theorem fb_fw {τ σ : gs_T} {q e : Nat} {x : Int32} {m : Nat} (hm : m ≤ 40) (he : e < 40) (hl : τ.2.2 q = sc_ab σ x m) (h : sc_fw τ q e) : e < m ∧ nI (σ.1 12 e 0) = x ∧ ¬ σ.2.1 3 e 0 = 0 := by
  unfold sc_fw at h
  rw [fb_cmp, hl, fb_bit _ he] at h
  exact (fb_ab m hm e he).mp h
