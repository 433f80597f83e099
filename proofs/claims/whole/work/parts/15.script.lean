/-! the script -/
section SC
variable {S : gx_S} {M : gx_M} {d pc : Nat} {L : List (Option Value)} {st : List Value} {h : gx_H} {Q : Option Value → gx_H → Prop}
theorem gx_sld {i x : Int32} (hd : decode M.2.2.1 pc = .ok (.iaload, 1)) (hin : vp_in i S.2.2.1) (hx : S.2.2.2 i.toNatClampNeg = x) (kk : gx_Ev S M d (pc + 1) L (.int x :: st) h Q) : gx_Ev S M d pc L (.int i :: .ref S.2.1 :: st) h Q := by
  subst hx
  obtain ⟨r, h', hq, hm, hk⟩ := kk
  refine ⟨r, h', hq, hm, fun Z p l e R s m args below meth c Qw k1 k2 H locs ls J a1 a2 a3 a4 => ?_⟩
  obtain ⟨scr, h1, h2, h3, h4, h5⟩ := a2.2.2.2.2
  have hlt : i.toNatClampNeg < S.2.2.1 := Nat.not_le.mp fun q => hin (Or.inr q)
  exact W.iald (v := .int (S.2.2.2 i.toNatClampNeg)) J.1.1 J.1.2.1 h1 h2 h3 (by rw [h4]; exact hin) (h5 _ hlt) rfl rfl hd (hk Z p l e R s m args below meth c Qw k1 k2 H locs ls J a1 a2 a3 a4)
theorem gx_slen (hd : decode M.2.2.1 pc = .ok (.arraylength, 1)) (kk : gx_Ev S M d (pc + 1) L (.int (Int32.ofNat S.2.2.1) :: st) h Q) : gx_Ev S M d pc L (.ref S.2.1 :: st) h Q := by
  obtain ⟨r, h', hq, hm, hk⟩ := kk
  refine ⟨r, h', hq, hm, fun Z p l e R s m args below meth c Qw k1 k2 H locs ls J a1 a2 a3 a4 => ?_⟩
  obtain ⟨scr, h1, h2, h3, h4, h5⟩ := a2.2.2.2.2
  exact W.alen (n := Int32.ofNat S.2.2.1) J.1.1 J.1.2.1 h1 h2 (by rw [h4] <;> rfl) rfl rfl hd (hk Z p l e R s m args below meth c Qw k1 k2 H locs ls J a1 a2 a3 a4)
end SC
