/-! GroupOrderModel.<init> -/
def gi_tab : List (Nat × Nat × Nat) := [(1, 0, 4), (2, 1, 4), (3, 0, 16), (5, 0, 40), (6, 0, 40), (7, 0, 40), (8, 0, 40), (9, 0, 40), (10, 0, 40), (11, 1, 40), (12, 0, 40), (13, 0, 4), (14, 1, 160), (15, 0, 160), (16, 1, 160), (17, 1, 160), (18, 1, 160), (19, 0, 640), (20, 1, 640), (21, 0, 640), (22, 0, 640), (23, 0, 4), (24, 0, 160), (26, 0, 400), (27, 0, 400), (28, 0, 400), (29, 0, 400), (30, 0, 400), (31, 0, 400), (32, 0, 400)]
def gi_fs (b : Nat) (j : Nat) : List Value := match j with
  | 0 => [.int 0, .null, .null, .null, .int 0, .null, .null, .null, .null, .null, .null, .null, .null, .null, .null, .null, .null, .null, .null, .null, .null, .null, .null, .null, .null, .int 0, .null, .null, .null, .null, .null, .null, .null, .int 0]
  | j + 1 => match gi_tab[j]? with
    | some (k, _, _) => (gi_fs b j).set k (.ref (b + j))
    | none => gi_fs b j
def gi_sl (j : Nat) : Nat := match j with
  | 0 => 0
  | j + 1 => match gi_tab[j]? with
    | some (_, _, n) => gi_sl j + n
    | none => gi_sl j
theorem gi_fs_len (b j : Nat) : (gi_fs b j).length = 34 := by
  induction j with
  | zero => rfl
  | succ j ih =>
    rw [gi_fs]
    split
    · rw [List.length_set]; exact ih
    · exact ih
def gi_b (h : gx_H) (a j : Nat) (H : gx_H) : Prop := H.1 = h.1 + j ∧ H.2.1 = h.2.1 + gi_sl j ∧ H.2.2 a = some (gx_ob 6 (gi_fs h.1 j)) ∧ (∀ i q, i < j → gi_tab[i]? = some q → H.2.2 (h.1 + i) = some (gx_ai q.2.1 q.2.2 (fun _ => 0))) ∧ ∀ q, q < h.1 → q ≠ a → H.2.2 q = h.2.2 q
section
variable {S : gx_S} {M : gx_M} {d pc : Nat} {L : List (Option Value)} {st : List Value} {Q : Option Value → gx_H → Prop}
theorem gi_step {h H : gx_H} {a j k t N idx : Nat} {aty : ArrayType} {fty : FieldType} {n : Int32} (F : gi_b h a j H) (hlt : a < h.1) (htab : gi_tab[j]? = some (k, t, N)) (hd : decode M.2.2.1 pc = .ok (.newarray aty, 2)) (hty : (t = 0 ∧ aty = .int) ∨ (t = 1 ∧ aty = .boolean)) (hn : ¬ n < 0) (hN : n.toNatClampNeg = N) (hb : N ≤ 1000000) (hd2 : decode M.2.2.1 (pc + 2) = .ok (.putfield idx, 3)) (hf : gx_FL M.1 idx 6 k fty true) (hi : M.2.1.name = "<init>") (hown : ∀ r, vwCl[6]? = some r → r.1 = M.1) (hk : k < 34) (hna : ∀ x, narrow fty (.ref x) = .ref x) (hfi : ∀ x, fits fty (.ref x) = true) (K : ∀ H', gi_b h a (j + 1) H' → gx_Ev S M d (pc + 2 + 3) L st H' Q) : gx_Ev S M d pc L (.int n :: .ref a :: st) H Q := by
  obtain ⟨f1, f2, f3, f4, f5⟩ := F
  refine gx_newa hd hty hn hN hb ?_
  have hne : a ≠ H.1 := by omega
  have hA : (gx_push H N (gx_ai t N (fun _ => 0))).2.2 a = some (gx_ob 6 (gi_fs h.1 j)) := (gx_push_ne H N _ hne).trans f3
  refine gx_putF hd2 hf hi hown hA (by rw [gi_fs_len]; exact hk) (hna _) (hfi _) (K _ ⟨?_, ?_, ?_, ?_, ?_⟩)
  · show H.1 + 1 = _
    omega
  · show H.2.1 + N = _
    simp only [gi_sl, htab]
    omega
  · rw [gx_set_at, gi_fs, htab, f1]
  · intro i q hi hq
    rw [gx_set_ne _ _ (show h.1 + i ≠ a by omega)]
    by_cases hij : i = j
    · subst hij
      rw [htab] at hq
      cases hq
      rw [← f1]
      exact gx_push_at _ _ _
    · rw [gx_push_ne _ _ _ (show h.1 + i ≠ H.1 by omega)]
      exact f4 i q (by omega) hq
  · intro q hq hqa
    rw [gx_set_ne _ _ hqa, gx_push_ne _ _ _ (show q ≠ H.1 by omega)]
    exact f5 q hq hqa
end
set_option maxHeartbeats 4000000 in
theorem cl_mi1 {S : gx_S} {h : gx_H} {a : Nat} {Q : Option Value → gx_H → Prop} (x : Int32) (hlt : a < h.1) (hA : h.2.2 a = some (gx_ob 6 (gi_fs h.1 0))) (K : ∀ H, gi_b h a 30 H → gx_Ev S gm_X6_init 1 277 [some (.ref a), some (.int x), none] [.int (nI (gi_n x)), .ref a] H Q) : gx_Ev S gm_X6_init 1 0 [some (.ref a), some (.int x), none] [] h Q := by
  refine gx_aload_n dX6_init_0 rfl ?_
  refine gx_objI dX6_init_1 wm_X6_1 (Nat.le_of_ble_eq_true rfl) (by decide) ?_
  have F : gi_b h a 0 h := ⟨rfl, rfl, hA, fun i q hi => absurd hi (Nat.not_lt_zero _), fun _ _ _ => rfl⟩
  have key : ∀ H, gi_b h a 0 H → gx_Ev S gm_X6_init 1 4 [some (.ref a), some (.int x), none] [] H Q := fun H F => by
    refine gx_aload_n dX6_init_4 rfl ?_
    refine gx_iconst dX6_init_5 (v := 4) (by decide) ?_
    refine gi_step F hlt (k := 1) (t := 0) (N := 4) rfl dX6_init_6 (by decide) (by decide) (by decide) (by decide) dX6_init_8 gf_X6_7 rfl (fun r hr => by cases hr; rfl) (by decide) (fun _ => rfl) (fun _ => rfl) (fun H F => ?_)
    refine gx_aload_n dX6_init_11 rfl ?_
    refine gx_iconst dX6_init_12 (v := 4) (by decide) ?_
    refine gi_step F hlt (k := 2) (t := 1) (N := 4) rfl dX6_init_13 (by decide) (by decide) (by decide) (by decide) dX6_init_15 gf_X6_13 rfl (fun r hr => by cases hr; rfl) (by decide) (fun _ => rfl) (fun _ => rfl) (fun H F => ?_)
    refine gx_aload_n dX6_init_18 rfl ?_
    refine gx_bipush dX6_init_19 (v := 16) (by decide) ?_
    refine gi_step F hlt (k := 3) (t := 0) (N := 16) rfl dX6_init_21 (by decide) (by decide) (by decide) (by decide) dX6_init_23 gf_X6_17 rfl (fun r hr => by cases hr; rfl) (by decide) (fun _ => rfl) (fun _ => rfl) (fun H F => ?_)
    refine gx_aload_n dX6_init_26 rfl ?_
    refine gx_bipush dX6_init_27 (v := 40) (by decide) ?_
    refine gi_step F hlt (k := 5) (t := 0) (N := 40) rfl dX6_init_29 (by decide) (by decide) (by decide) (by decide) dX6_init_31 gf_X6_20 rfl (fun r hr => by cases hr; rfl) (by decide) (fun _ => rfl) (fun _ => rfl) (fun H F => ?_)
    refine gx_aload_n dX6_init_34 rfl ?_
    refine gx_bipush dX6_init_35 (v := 40) (by decide) ?_
    refine gi_step F hlt (k := 6) (t := 0) (N := 40) rfl dX6_init_37 (by decide) (by decide) (by decide) (by decide) dX6_init_39 gf_X6_23 rfl (fun r hr => by cases hr; rfl) (by decide) (fun _ => rfl) (fun _ => rfl) (fun H F => ?_)
    refine gx_aload_n dX6_init_42 rfl ?_
    refine gx_bipush dX6_init_43 (v := 40) (by decide) ?_
    refine gi_step F hlt (k := 7) (t := 0) (N := 40) rfl dX6_init_45 (by decide) (by decide) (by decide) (by decide) dX6_init_47 gf_X6_26 rfl (fun r hr => by cases hr; rfl) (by decide) (fun _ => rfl) (fun _ => rfl) (fun H F => ?_)
    refine gx_aload_n dX6_init_50 rfl ?_
    refine gx_bipush dX6_init_51 (v := 40) (by decide) ?_
    refine gi_step F hlt (k := 8) (t := 0) (N := 40) rfl dX6_init_53 (by decide) (by decide) (by decide) (by decide) dX6_init_55 gf_X6_29 rfl (fun r hr => by cases hr; rfl) (by decide) (fun _ => rfl) (fun _ => rfl) (fun H F => ?_)
    refine gx_aload_n dX6_init_58 rfl ?_
    refine gx_bipush dX6_init_59 (v := 40) (by decide) ?_
    refine gi_step F hlt (k := 9) (t := 0) (N := 40) rfl dX6_init_61 (by decide) (by decide) (by decide) (by decide) dX6_init_63 gf_X6_32 rfl (fun r hr => by cases hr; rfl) (by decide) (fun _ => rfl) (fun _ => rfl) (fun H F => ?_)
    refine gx_aload_n dX6_init_66 rfl ?_
    refine gx_bipush dX6_init_67 (v := 40) (by decide) ?_
    refine gi_step F hlt (k := 10) (t := 0) (N := 40) rfl dX6_init_69 (by decide) (by decide) (by decide) (by decide) dX6_init_71 gf_X6_35 rfl (fun r hr => by cases hr; rfl) (by decide) (fun _ => rfl) (fun _ => rfl) (fun H F => ?_)
    refine gx_aload_n dX6_init_74 rfl ?_
    refine gx_bipush dX6_init_75 (v := 40) (by decide) ?_
    refine gi_step F hlt (k := 11) (t := 1) (N := 40) rfl dX6_init_77 (by decide) (by decide) (by decide) (by decide) dX6_init_79 gf_X6_38 rfl (fun r hr => by cases hr; rfl) (by decide) (fun _ => rfl) (fun _ => rfl) (fun H F => ?_)
    refine gx_aload_n dX6_init_82 rfl ?_
    refine gx_bipush dX6_init_83 (v := 40) (by decide) ?_
    refine gi_step F hlt (k := 12) (t := 0) (N := 40) rfl dX6_init_85 (by decide) (by decide) (by decide) (by decide) dX6_init_87 gf_X6_41 rfl (fun r hr => by cases hr; rfl) (by decide) (fun _ => rfl) (fun _ => rfl) (fun H F => ?_)
    refine gx_aload_n dX6_init_90 rfl ?_
    refine gx_iconst dX6_init_91 (v := 4) (by decide) ?_
    refine gi_step F hlt (k := 13) (t := 0) (N := 4) rfl dX6_init_92 (by decide) (by decide) (by decide) (by decide) dX6_init_94 gf_X6_44 rfl (fun r hr => by cases hr; rfl) (by decide) (fun _ => rfl) (fun _ => rfl) (fun H F => ?_)
    refine gx_aload_n dX6_init_97 rfl ?_
    refine gx_sipush dX6_init_98 (v := 160) (by decide) ?_
    refine gi_step F hlt (k := 14) (t := 1) (N := 160) rfl dX6_init_101 (by decide) (by decide) (by decide) (by decide) dX6_init_103 gf_X6_47 rfl (fun r hr => by cases hr; rfl) (by decide) (fun _ => rfl) (fun _ => rfl) (fun H F => ?_)
    refine gx_aload_n dX6_init_106 rfl ?_
    refine gx_sipush dX6_init_107 (v := 160) (by decide) ?_
    refine gi_step F hlt (k := 15) (t := 0) (N := 160) rfl dX6_init_110 (by decide) (by decide) (by decide) (by decide) dX6_init_112 gf_X6_50 rfl (fun r hr => by cases hr; rfl) (by decide) (fun _ => rfl) (fun _ => rfl) (fun H F => ?_)
    refine gx_aload_n dX6_init_115 rfl ?_
    refine gx_sipush dX6_init_116 (v := 160) (by decide) ?_
    refine gi_step F hlt (k := 16) (t := 1) (N := 160) rfl dX6_init_119 (by decide) (by decide) (by decide) (by decide) dX6_init_121 gf_X6_53 rfl (fun r hr => by cases hr; rfl) (by decide) (fun _ => rfl) (fun _ => rfl) (fun H F => ?_)
    refine gx_aload_n dX6_init_124 rfl ?_
    refine gx_sipush dX6_init_125 (v := 160) (by decide) ?_
    refine gi_step F hlt (k := 17) (t := 1) (N := 160) rfl dX6_init_128 (by decide) (by decide) (by decide) (by decide) dX6_init_130 gf_X6_56 rfl (fun r hr => by cases hr; rfl) (by decide) (fun _ => rfl) (fun _ => rfl) (fun H F => ?_)
    refine gx_aload_n dX6_init_133 rfl ?_
    refine gx_sipush dX6_init_134 (v := 160) (by decide) ?_
    refine gi_step F hlt (k := 18) (t := 1) (N := 160) rfl dX6_init_137 (by decide) (by decide) (by decide) (by decide) dX6_init_139 gf_X6_59 rfl (fun r hr => by cases hr; rfl) (by decide) (fun _ => rfl) (fun _ => rfl) (fun H F => ?_)
    refine gx_aload_n dX6_init_142 rfl ?_
    refine gx_sipush dX6_init_143 (v := 640) (by decide) ?_
    refine gi_step F hlt (k := 19) (t := 0) (N := 640) rfl dX6_init_146 (by decide) (by decide) (by decide) (by decide) dX6_init_148 gf_X6_62 rfl (fun r hr => by cases hr; rfl) (by decide) (fun _ => rfl) (fun _ => rfl) (fun H F => ?_)
    refine gx_aload_n dX6_init_151 rfl ?_
    refine gx_sipush dX6_init_152 (v := 640) (by decide) ?_
    refine gi_step F hlt (k := 20) (t := 1) (N := 640) rfl dX6_init_155 (by decide) (by decide) (by decide) (by decide) dX6_init_157 gf_X6_65 rfl (fun r hr => by cases hr; rfl) (by decide) (fun _ => rfl) (fun _ => rfl) (fun H F => ?_)
    refine gx_aload_n dX6_init_160 rfl ?_
    refine gx_sipush dX6_init_161 (v := 640) (by decide) ?_
    refine gi_step F hlt (k := 21) (t := 0) (N := 640) rfl dX6_init_164 (by decide) (by decide) (by decide) (by decide) dX6_init_166 gf_X6_68 rfl (fun r hr => by cases hr; rfl) (by decide) (fun _ => rfl) (fun _ => rfl) (fun H F => ?_)
    refine gx_aload_n dX6_init_169 rfl ?_
    refine gx_sipush dX6_init_170 (v := 640) (by decide) ?_
    refine gi_step F hlt (k := 22) (t := 0) (N := 640) rfl dX6_init_173 (by decide) (by decide) (by decide) (by decide) dX6_init_175 gf_X6_71 rfl (fun r hr => by cases hr; rfl) (by decide) (fun _ => rfl) (fun _ => rfl) (fun H F => ?_)
    refine gx_aload_n dX6_init_178 rfl ?_
    refine gx_iconst dX6_init_179 (v := 4) (by decide) ?_
    refine gi_step F hlt (k := 23) (t := 0) (N := 4) rfl dX6_init_180 (by decide) (by decide) (by decide) (by decide) dX6_init_182 gf_X6_74 rfl (fun r hr => by cases hr; rfl) (by decide) (fun _ => rfl) (fun _ => rfl) (fun H F => ?_)
    refine gx_aload_n dX6_init_185 rfl ?_
    refine gx_sipush dX6_init_186 (v := 160) (by decide) ?_
    refine gi_step F hlt (k := 24) (t := 0) (N := 160) rfl dX6_init_189 (by decide) (by decide) (by decide) (by decide) dX6_init_191 gf_X6_77 rfl (fun r hr => by cases hr; rfl) (by decide) (fun _ => rfl) (fun _ => rfl) (fun H F => ?_)
    refine gx_aload_n dX6_init_194 rfl ?_
    refine gx_sipush dX6_init_195 (v := 400) (by decide) ?_
    refine gi_step F hlt (k := 26) (t := 0) (N := 400) rfl dX6_init_198 (by decide) (by decide) (by decide) (by decide) dX6_init_200 gf_X6_80 rfl (fun r hr => by cases hr; rfl) (by decide) (fun _ => rfl) (fun _ => rfl) (fun H F => ?_)
    refine gx_aload_n dX6_init_203 rfl ?_
    refine gx_sipush dX6_init_204 (v := 400) (by decide) ?_
    refine gi_step F hlt (k := 27) (t := 0) (N := 400) rfl dX6_init_207 (by decide) (by decide) (by decide) (by decide) dX6_init_209 gf_X6_83 rfl (fun r hr => by cases hr; rfl) (by decide) (fun _ => rfl) (fun _ => rfl) (fun H F => ?_)
    refine gx_aload_n dX6_init_212 rfl ?_
    refine gx_sipush dX6_init_213 (v := 400) (by decide) ?_
    refine gi_step F hlt (k := 28) (t := 0) (N := 400) rfl dX6_init_216 (by decide) (by decide) (by decide) (by decide) dX6_init_218 gf_X6_86 rfl (fun r hr => by cases hr; rfl) (by decide) (fun _ => rfl) (fun _ => rfl) (fun H F => ?_)
    refine gx_aload_n dX6_init_221 rfl ?_
    refine gx_sipush dX6_init_222 (v := 400) (by decide) ?_
    refine gi_step F hlt (k := 29) (t := 0) (N := 400) rfl dX6_init_225 (by decide) (by decide) (by decide) (by decide) dX6_init_227 gf_X6_89 rfl (fun r hr => by cases hr; rfl) (by decide) (fun _ => rfl) (fun _ => rfl) (fun H F => ?_)
    refine gx_aload_n dX6_init_230 rfl ?_
    refine gx_sipush dX6_init_231 (v := 400) (by decide) ?_
    refine gi_step F hlt (k := 30) (t := 0) (N := 400) rfl dX6_init_234 (by decide) (by decide) (by decide) (by decide) dX6_init_236 gf_X6_92 rfl (fun r hr => by cases hr; rfl) (by decide) (fun _ => rfl) (fun _ => rfl) (fun H F => ?_)
    refine gx_aload_n dX6_init_239 rfl ?_
    refine gx_sipush dX6_init_240 (v := 400) (by decide) ?_
    refine gi_step F hlt (k := 31) (t := 0) (N := 400) rfl dX6_init_243 (by decide) (by decide) (by decide) (by decide) dX6_init_245 gf_X6_95 rfl (fun r hr => by cases hr; rfl) (by decide) (fun _ => rfl) (fun _ => rfl) (fun H F => ?_)
    refine gx_aload_n dX6_init_248 rfl ?_
    refine gx_sipush dX6_init_249 (v := 400) (by decide) ?_
    refine gi_step F hlt (k := 32) (t := 0) (N := 400) rfl dX6_init_252 (by decide) (by decide) (by decide) (by decide) dX6_init_254 gf_X6_98 rfl (fun r hr => by cases hr; rfl) (by decide) (fun _ => rfl) (fun _ => rfl) (fun H F => ?_)
    refine gx_aload_n dX6_init_257 rfl ?_
    refine gx_iload_n dX6_init_258 rfl ?_
    refine gx_iconst dX6_init_259 (v := 2) (by decide) ?_
    have K := K H F
    refine gx_icmp_ge dX6_init_260 (tgt := 267) (by decide) (fun h1 => ?_) (fun h1 => ?_)
    · have h1 : ¬ x < 2 := Int32.not_lt.mpr h1
      refine gx_iload_n dX6_init_267 rfl ?_
      refine gx_iconst dX6_init_268 (v := 4) (by decide) ?_
      refine gx_icmp_le dX6_init_269 (tgt := 276) (by decide) (fun h2 => ?_) (fun h2 => ?_)
      · have h2 : ¬ 4 < x := Int32.not_lt.mpr h2
        refine gx_iload_n dX6_init_276 rfl ?_
        rw [← gi_n_i x, if_neg h1, if_neg h2] at K
        exact K
      · have h2 : 4 < x := Int32.not_le.mp h2
        refine gx_iconst dX6_init_272 (v := 4) (by decide) ?_
        refine gx_goto dX6_init_273 (tgt := 277) (by decide) ?_
        rw [← gi_n_i x, if_neg h1, if_pos h2] at K
        exact K
    · have h1 : x < 2 := Int32.not_le.mp h1
      refine gx_iconst dX6_init_263 (v := 2) (by decide) ?_
      refine gx_goto dX6_init_264 (tgt := 277) (by decide) ?_
      rw [← gi_n_i x, if_pos h1] at K
      exact K
  exact key h F
