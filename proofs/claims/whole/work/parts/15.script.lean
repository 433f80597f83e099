/-! the script -/
section SC
variable {S : gx_S} {M : gx_M} {d pc : Nat} {L : List (Option Value)} {st : List Value} {h : gx_H} {Q : Option Value → gx_H → Prop}
theorem gx_sld {i x : Int32} (hd : decode M.2.2.1 pc = .ok (.iaload, 1)) (hin : vp_in i S.2.2.1) (hx : S.2.2.2 i.toNatClampNeg = x) (kk : gx_Ev S M d (pc + 1) L (.int x :: st) h Q) : gx_Ev S M d pc L (.int i :: .ref S.2.1 :: st) h Q := by
  subst hx
  obtain ⟨r, h', hq, hm, hk⟩ := kk
  refine ⟨r, h', hq, hm, fun Z p l e R s m args below meth c Qw k1 k2 H locs ls J a1 a2 a3 a4 => ?_⟩
  obtain ⟨scr, h1, h2, h3, h4, h5⟩ := a2.2.2.2.2
  have hlt : i.toNatClampNeg < S.2.2.1 := Nat.not_le.mp fun q => hin (Or.inr q)
  exact W.iald (v := .int (S.2.2.2 i.toNatClampNeg)) J.1.1 J.1.2.1 h1 h2 h3 (by rw [h4]; exact hin) (h5 _ hlt) rfl rfl hd (hk Z p l e R s m args below meth c Qw k1 k2 H locs ls J a1 a2 a3 a4)
theorem gx_slen (hd : decode M.2.2.1 pc = .ok (.arraylength, 1)) (kk : gx_Ev S M d (pc + 1) L (.int (Int32.ofNat S.2.2.1) :: st) h Q) : gx_Ev S M d pc L (.ref S.2.1 :: st) h Q := by
  obtain ⟨r, h', hq, hm, hk⟩ := kk
  refine ⟨r, h', hq, hm, fun Z p l e R s m args below meth c Qw k1 k2 H locs ls J a1 a2 a3 a4 => ?_⟩
  obtain ⟨scr, h1, h2, h3, h4, h5⟩ := a2.2.2.2.2
  exact W.alen (n := Int32.ofNat S.2.2.1) J.1.1 J.1.2.1 h1 h2 (by rw [h4] <;> rfl) rfl rfl hd (hk Z p l e R s m args below meth c Qw k1 k2 H locs ls J a1 a2 a3 a4)
end SC
/-! Math.max, Math.min -/
theorem wk_mmax : Cond.code Lib.Math.max.name Lib.Math.max.code 2 (some .int) ∈ gx_Ts := wk_J9_max_7cf53
theorem wk_mmin : Cond.code Lib.Math.min.name Lib.Math.min.code 2 (some .int) ∈ gx_Ts := wk_J9_min_7cf53
section MX
variable {S : gx_S} {M : gx_M} {d pc : Nat} {L : List (Option Value)} {st : List Value} {h : gx_H} {Q : Option Value → gx_H → Prop}
theorem gx_mmax {idx : Nat} {x y : Int32} (hd : decode M.2.2.1 pc = .ok (.invokestatic idx, 3)) (hml : Cond.methodLink M.1 idx yJ9_max_7cf53 ∈ gx_Ts) (hw : (st.map fun v => v.category).sum ≤ 8) (hdd : 1 ≤ d) (kk : gx_Ev S M d (pc + 3) L (.int (if x < y then y else x) :: st) h Q) : gx_Ev S M d pc L (.int y :: .int x :: st) h Q := by
  obtain ⟨r, h', hq, hm, hk⟩ := kk
  refine ⟨r, h', hq, hm, fun Z p l e R s m args below meth c Qw k1 k2 H locs ls J a1 a2 a3 a4 => ?_⟩
  have hts := J.1.2.2.2.2.1
  have hf := J.2.1
  have hlo := J.2.2.1
  have rc := J.2.2.2.1
  have rs := J.2.2.2.2.1
  exact va_mmax J.1.1 J.1.2.1 (J.1.2.2.1.trans a4.1.1.symm) J.1.2.2.2.1 (hts _ hml) (hts _ ws_J9_max_7cf53) (hts _ wi_J9) (hts _ wk_mmax) (by omega) (by omega) (by omega) (by omega) hd (hk Z p l e R s m args below meth c Qw k1 k2 H locs ls J a1 a2 a3 a4)
theorem gx_mmin {idx : Nat} {x y : Int32} (hd : decode M.2.2.1 pc = .ok (.invokestatic idx, 3)) (hml : Cond.methodLink M.1 idx yJ9_min_7cf53 ∈ gx_Ts) (hw : (st.map fun v => v.category).sum ≤ 8) (hdd : 1 ≤ d) (kk : gx_Ev S M d (pc + 3) L (.int (if y < x then y else x) :: st) h Q) : gx_Ev S M d pc L (.int y :: .int x :: st) h Q := by
  obtain ⟨r, h', hq, hm, hk⟩ := kk
  refine ⟨r, h', hq, hm, fun Z p l e R s m args below meth c Qw k1 k2 H locs ls J a1 a2 a3 a4 => ?_⟩
  have hts := J.1.2.2.2.2.1
  have hf := J.2.1
  have hlo := J.2.2.1
  have rc := J.2.2.2.1
  have rs := J.2.2.2.2.1
  exact va_mmin J.1.1 J.1.2.1 (J.1.2.2.1.trans a4.1.1.symm) J.1.2.2.2.1 (hts _ hml) (hts _ ws_J9_min_7cf53) (hts _ wi_J9) (hts _ wk_mmin) (by omega) (by omega) (by omega) (by omega) hd (hk Z p l e R s m args below meth c Qw k1 k2 H locs ls J a1 a2 a3 a4)
end MX
