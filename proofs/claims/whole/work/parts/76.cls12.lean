/-! the class: replayGivesTheSame, agree -/
def sc_rl (m e : Nat) (σ : gs_T) : Bool × gs_T := match m with
  | 0 => (true, σ)
  | m + 1 => if e = 0 then (true, σ) else if sc_rs σ (e - 1) then sc_rl m (sc_na (sc_ra σ (e - 1)) e (σ.1 1 0 0)) (sc_ra σ (e - 1)) else (false, sc_ra σ (e - 1))
theorem sc_rl_1 (m e : Nat) (σ : gs_T) : (sc_rl m e σ).2.1 = σ.1 := by
  induction m generalizing e σ with
  | zero => rfl
  | succ m ih =>
    rw [sc_rl]
    split
    · rfl
    · split
      · rw [ih, sc_ra_1]
      · exact sc_ra_1 _ _
def sc_kc (σ : gs_T) (m q : Nat) : Bool := match m with
  | 0 => true
  | m + 1 => if σ.2.1 19 q 0 = σ.2.1 22 q 0 then sc_kc σ m (q + 1) else false
def sc_r0 (σ : gs_T) : gs_T := sc_fl 22 100 (sc_fl 21 100 σ 16) 16
def sc_rg (σ : gs_T) : Bool × gs_T := if (sc_rl (σ.1 1 0 0) (sc_na (sc_r0 σ) 0 (σ.1 1 0 0)) (sc_r0 σ)).1 = true then (sc_kc (sc_rl (σ.1 1 0 0) (sc_na (sc_r0 σ) 0 (σ.1 1 0 0)) (sc_r0 σ)).2 16 0, (sc_rl (σ.1 1 0 0) (sc_na (sc_r0 σ) 0 (σ.1 1 0 0)) (sc_r0 σ)).2) else (false, (sc_rl (σ.1 1 0 0) (sc_na (sc_r0 σ) 0 (σ.1 1 0 0)) (sc_r0 σ)).2)
set_option maxHeartbeats 4000000 in
theorem cl_kc {S : gx_S} {h : gx_H} {σ : gs_T} {A : gs_A} (R : gs_R h σ A) (w1 : Option Value) (g1 : gx_ok [none, w1] 2 = true) : ∀ (m q : Nat), q + m = 16 → gx_Ev S gm_X5_replayGivesTheSame 5 62 [some (.ref (A 5 0 0)), w1, some (.int (nI q))] [] h (fun r h' => gx_rt (some .boolean) r ∧ h' = h ∧ r = some (.int (gs_bi (sc_kc σ m q = true)))) := by
  intro m
  induction m with
  | zero =>
    intro q hq
    have hq0 : q = 16 := by omega
    refine gx_iload_n dX5_replayGivesTheSame_62 rfl ?_
    refine gx_bipush dX5_replayGivesTheSame_63 (v := 16) (by decide) ?_
    refine gx_icmp_ge dX5_replayGivesTheSame_65 (tgt := 91) (by decide) (fun hc1 => ?_) (fun hc1 => absurd hc1 (fun z => z (by rw [hq0]; decide)))
    refine gx_iconst dX5_replayGivesTheSame_91 (v := 1) (by decide) ?_
    refine gx_ireturn dX5_replayGivesTheSame_92 ?_
    exact ⟨⟨_, rfl, rfl⟩, rfl, congrArg (fun z => some (Value.int z)) (gs_bt rfl)⟩
  | succ m ih =>
    intro q hq
    refine gx_iload_n dX5_replayGivesTheSame_62 rfl ?_
    refine gx_bipush dX5_replayGivesTheSame_63 (v := 16) (by decide) ?_
    refine gx_icmp_ge dX5_replayGivesTheSame_65 (tgt := 91) (by decide) (fun hc1 => absurd hc1 (nI_ge (a := q) (b := 16) (by omega) (by decide))) (fun hc1 => ?_)
    refine gx_aload_n dX5_replayGivesTheSame_68 rfl ?_
    refine gx_get dX5_replayGivesTheSame_69 gf_X5_9 (gs_g5 R ) (v := .ref (A 8 0 0)) (rfl) ?_
    refine gx_iload_n dX5_replayGivesTheSame_72 rfl ?_
    refine gq_8 dX5_replayGivesTheSame_73 R  (q := q) (rfl) (by omega) (v := σ.2.1 19 q 0) (rfl) ?_
    refine gx_aload_n dX5_replayGivesTheSame_74 rfl ?_
    refine gx_get dX5_replayGivesTheSame_75 gf_X5_32 (gs_g5 R ) (v := .ref (A 12 0 0)) (rfl) ?_
    refine gx_iload_n dX5_replayGivesTheSame_78 rfl ?_
    refine gq_12 dX5_replayGivesTheSame_79 R  (q := q) (rfl) (by omega) (v := σ.2.1 22 q 0) (rfl) ?_
    refine gx_icmp_eq dX5_replayGivesTheSame_80 (tgt := 85) (by decide) (fun hv => ?_) (fun hv => ?_)
    · refine gx_iinc dX5_replayGivesTheSame_85 rfl (v := nI (q + 1)) (nI_1 _) (by decide) g1 (L' := [some (.ref (A 5 0 0)), w1, some (.int (nI (q + 1)))]) rfl ?_
      refine gx_goto dX5_replayGivesTheSame_88 (tgt := 62) (by decide) ?_
      rw [sc_kc, if_pos hv]
      exact ih (q + 1) (by omega)
    · refine gx_iconst dX5_replayGivesTheSame_83 (v := 0) (by decide) ?_
      refine gx_ireturn dX5_replayGivesTheSame_84 ?_
      exact ⟨⟨_, rfl, rfl⟩, rfl, congrArg (fun z => some (Value.int z)) (gs_bf (by rw [sc_kc, if_neg hv]; decide))⟩
set_option maxHeartbeats 4000000 in
theorem cl_rl {S : gx_S} {A : gs_A} {Q : Option Value → gx_H → Prop} : ∀ (m k e9 : Nat) (σ : gs_T) (h : gx_H), k + m = σ.1 1 0 0 → e9 ≤ σ.1 1 0 0 → gw_W σ → gs_R h σ A → ((sc_rl m e9 σ).1 = true → ∀ (h : gx_H) (w1 : Option Value) (v : Int32), gx_ok [none, w1] 2 = true → gs_R h (sc_rl m e9 σ).2 A → gx_Ev S gm_X5_replayGivesTheSame 5 60 [some (.ref (A 5 0 0)), w1, some (.int v)] [] h Q) → ((sc_rl m e9 σ).1 = false → ∀ h, gs_R h (sc_rl m e9 σ).2 A → Q (some (.int 0)) h) → gx_Ev S gm_X5_replayGivesTheSame 5 26 [some (.ref (A 5 0 0)), (some (va_rf (gs_op e9 (fun z => A 3 z 0)))), some (.int (nI k))] [] h Q := by
  intro m
  induction m with
  | zero =>
    intro k e9 σ h hk he9 W R K1 K0
    have hn4 := gw_n4 W
    have hn2 := gw_n2 W
    have hcn := gw_cnt W
    have hok : gx_ok [none, some (va_rf (gs_op e9 (fun z => A 3 z 0)))] 2 = true := by rcases gs_zs e9 with he | ⟨e, he⟩ <;> rw [he] <;> rfl
    refine gx_iload_n dX5_replayGivesTheSame_26 rfl ?_
    refine gx_aload_n dX5_replayGivesTheSame_27 rfl ?_
    refine gx_get dX5_replayGivesTheSame_28 gf_X5_59 (gs_g5 R ) (v := .int (nI (σ.1 1 0 0))) (rfl) ?_
    refine gx_icmp_ge dX5_replayGivesTheSame_31 (tgt := 60) (by decide) (fun hc1 => ?_) (fun hc1 => absurd hc1 (fun z => z (nI_le (by omega) (by omega))))
    exact K1 rfl _ _ _ hok R
  | succ m ih =>
    intro k e9 σ h hk he9 W R K1 K0
    have hn4 := gw_n4 W
    have hn2 := gw_n2 W
    have hcn := gw_cnt W
    rcases gs_zs e9 with he | ⟨e, he⟩
    · subst he
      show gx_Ev S gm_X5_replayGivesTheSame 5 26 [some (.ref (A 5 0 0)), some (.null), some (.int (nI k))] [] h _
      have e8 : sc_rl (m + 1) 0 σ = (true, σ) := by rw [sc_rl, if_pos rfl]
      rw [e8] at K1 K0
      refine gx_iload_n dX5_replayGivesTheSame_26 rfl ?_
      refine gx_aload_n dX5_replayGivesTheSame_27 rfl ?_
      refine gx_get dX5_replayGivesTheSame_28 gf_X5_59 (gs_g5 R ) (v := .int (nI (σ.1 1 0 0))) (rfl) ?_
      refine gx_icmp_ge dX5_replayGivesTheSame_31 (tgt := 60) (by decide) (fun hc1 => absurd hc1 (nI_ge (by omega) (by omega))) (fun hc1 => ?_)
      refine gx_aload_nN dX5_replayGivesTheSame_34 rfl ?_
      refine gx_ifnullN dX5_replayGivesTheSame_35 (tgt := 60) (by decide) ?_
      exact K1 rfl _ _ _ rfl R
    · subst he
      show gx_Ev S gm_X5_replayGivesTheSame 5 26 [some (.ref (A 5 0 0)), some (.ref (A 3 e 0)), some (.int (nI k))] [] h _
      have hec : e < σ.1 1 0 0 := by omega
      refine gx_iload_n dX5_replayGivesTheSame_26 rfl ?_
      refine gx_aload_n dX5_replayGivesTheSame_27 rfl ?_
      refine gx_get dX5_replayGivesTheSame_28 gf_X5_59 (gs_g5 R ) (v := .int (nI (σ.1 1 0 0))) (rfl) ?_
      refine gx_icmp_ge dX5_replayGivesTheSame_31 (tgt := 60) (by decide) (fun hc1 => absurd hc1 (nI_ge (by omega) (by omega))) (fun hc1 => ?_)
      refine gx_aload_n dX5_replayGivesTheSame_34 rfl ?_
      refine gx_ifnull dX5_replayGivesTheSame_35 ?_
      refine gx_aload_n dX5_replayGivesTheSame_38 rfl ?_
      refine gx_aload_n dX5_replayGivesTheSame_39 rfl ?_
      refine gx_invV dX5_replayGivesTheSame_40 wm_X5_290 gt_X5_replayAnswersTheSame wy_X5_replayAnswersTheSame wl_X5_replayAnswersTheSame (ci := 5) rfl rfl (gs_g5 R ) (As := [.ref (A 3 e 0)]) (rest := []) rfl rfl (Nat.le_of_ble_eq_true rfl) (by decide) (cc_X5_replayAnswersTheSame R W hec) (fun r1 h q1 => ?_)
      obtain ⟨R, hs9, rfl⟩ := q1
      show gx_Ev _ _ _ _ _ [.int (gs_bi (sc_rs σ e))] _ _
      refine gx_if_ne dX5_replayGivesTheSame_43 (tgt := 48) (by decide) (fun hb => ?_) (fun hb => ?_)
      · have hb := gs_b1 hb
        refine gx_aload_n dX5_replayGivesTheSame_48 rfl ?_
        refine gx_aload_n dX5_replayGivesTheSame_49 rfl ?_
        have e1 := sc_ra_1 σ e
        have W2 := gw_of e1 W
        refine gx_invV dX5_replayGivesTheSame_50 wm_X5_286 gt_X5_nextAnswered wy_X5_nextAnswered wl_X5_nextAnswered (ci := 5) rfl rfl (gs_g5 R ) (As := [.ref (A 3 e 0)]) (rest := []) rfl rfl (Nat.le_of_ble_eq_true rfl) (by decide) (cc_X5_nextAnswered1 R W2 (l := e) (by rw [e1]; exact hec)) (fun r1 h q1 => ?_)
        obtain ⟨rfl, rfl⟩ := q1
        show gx_Ev _ _ _ _ _ [va_rf (gs_op (sc_na (sc_ra σ e) (e + 1) ((sc_ra σ e).1 1 0 0)) (fun z => A 3 z 0))] _ _
        have e8 : sc_rl (m + 1) (e + 1) σ = sc_rl m (sc_na (sc_ra σ e) (e + 1) (σ.1 1 0 0)) (sc_ra σ e) := by rw [sc_rl, if_neg (by omega)]; simp only [Nat.add_sub_cancel]; rw [if_pos hb]
        rw [e8] at K1 K0
        have hle := sc_na_le (sc_ra σ e) (e + 1) (σ.1 1 0 0)
        rw [show (sc_ra σ e).1 1 0 0 = σ.1 1 0 0 from by rw [e1]]
        have k9 := ih (k + 1) (sc_na (sc_ra σ e) (e + 1) (σ.1 1 0 0)) (sc_ra σ e) _ (by rw [e1]; omega) (by rw [e1]; exact hle) W2 R K1 K0
        generalize sc_na (sc_ra σ e) (e + 1) (σ.1 1 0 0) = e7 at k9 ⊢
        rcases gs_zs e7 with h7 | ⟨e6, h7⟩
        · subst h7
          show gx_Ev _ _ _ _ _ [.null] _ _
          refine gx_astore_nN dX5_replayGivesTheSame_53 (by decide) rfl (L' := [some (.ref (A 5 0 0)), some (.null), some (.int (nI k))]) rfl ?_
          refine gx_iinc dX5_replayGivesTheSame_54 rfl (v := nI (k + 1)) (nI_1 _) (by decide) rfl (L' := [some (.ref (A 5 0 0)), some (.null), some (.int (nI (k + 1)))]) rfl ?_
          refine gx_goto dX5_replayGivesTheSame_57 (tgt := 26) (by decide) ?_
          exact k9
        · subst h7
          show gx_Ev _ _ _ _ _ [.ref (A 3 e6 0)] _ _
          refine gx_astore_n dX5_replayGivesTheSame_53 (by decide) rfl (L' := [some (.ref (A 5 0 0)), some (.ref (A 3 e6 0)), some (.int (nI k))]) rfl ?_
          refine gx_iinc dX5_replayGivesTheSame_54 rfl (v := nI (k + 1)) (nI_1 _) (by decide) rfl (L' := [some (.ref (A 5 0 0)), some (.ref (A 3 e6 0)), some (.int (nI (k + 1)))]) rfl ?_
          refine gx_goto dX5_replayGivesTheSame_57 (tgt := 26) (by decide) ?_
          exact k9
      · have hb := gs_b0 hb
        refine gx_iconst dX5_replayGivesTheSame_46 (v := 0) (by decide) ?_
        refine gx_ireturn dX5_replayGivesTheSame_47 ?_
        have e8 : sc_rl (m + 1) (e + 1) σ = (false, sc_ra σ e) := by rw [sc_rl, if_neg (by omega)]; simp only [Nat.add_sub_cancel]; rw [if_neg hb]
        rw [e8] at K0
        exact K0 rfl _ R
set_option maxHeartbeats 4000000 in
theorem cc_X5_replayGivesTheSame {S : gx_S} {h : gx_H} {σ : gs_T} {A : gs_A} (R : gs_R h σ A) (W : gw_W σ) : gx_Cn S gm_X5_replayGivesTheSame 5 [.ref (A 5 0 0)] h (fun r h' => gs_R h' (sc_rg σ).2 A ∧ r = some (.int (gs_bi ((sc_rg σ).1 = true)))) := by
  refine gx_Cn.of gt_X5_replayGivesTheSame (by simp [Value.category]) (Nat.le_of_ble_eq_true rfl) ?_
  show gx_Ev S gm_X5_replayGivesTheSame 5 0 [some (.ref (A 5 0 0)), none, none] [] h _
  refine gx_aload_n dX5_replayGivesTheSame_0 rfl ?_
  refine gx_get dX5_replayGivesTheSame_1 gf_X5_29 (gs_g5 R ) (v := .ref (A 11 0 0)) (rfl) ?_
  refine gx_bipush dX5_replayGivesTheSame_4 (v := 100) (by decide) ?_
  refine gx_invS dX5_replayGivesTheSame_6 wm_X5_53 gt_J7_fill_53178 ws_J7_fill_53178 (As := [.ref (A 11 0 0), .int 100]) (rest := []) rfl rfl (Nat.le_of_ble_eq_true rfl) (by decide) (cc_fill11 R 100) (fun r1 h q1 => ?_)
  obtain ⟨R, hs9, rfl⟩ := q1
  show gx_Ev _ _ _ _ _ [] _ _
  refine gx_aload_n dX5_replayGivesTheSame_9 rfl ?_
  refine gx_get dX5_replayGivesTheSame_10 gf_X5_32 (gs_g5 R ) (v := .ref (A 12 0 0)) (rfl) ?_
  refine gx_bipush dX5_replayGivesTheSame_13 (v := 100) (by decide) ?_
  refine gx_invS dX5_replayGivesTheSame_15 wm_X5_53 gt_J7_fill_53178 ws_J7_fill_53178 (As := [.ref (A 12 0 0), .int 100]) (rest := []) rfl rfl (Nat.le_of_ble_eq_true rfl) (by decide) (cc_fill12 R 100) (fun r1 h q1 => ?_)
  obtain ⟨R, hs9, rfl⟩ := q1
  show gx_Ev _ _ _ _ _ [] _ _
  refine gx_aload_n dX5_replayGivesTheSame_18 rfl ?_
  refine gx_null dX5_replayGivesTheSame_19 ?_
  have f0 : (sc_r0 σ).1 = σ.1 := (sc_fl_1 22 100 _ 16).trans (sc_fl_1 21 100 σ 16)
  have W0 := gw_of f0 W
  have R : gs_R h (sc_r0 σ) A := R
  refine gx_invV dX5_replayGivesTheSame_20 wm_X5_286 gt_X5_nextAnswered wy_X5_nextAnswered wl_X5_nextAnswered (ci := 5) rfl rfl (gs_g5 R ) (As := [.null]) (rest := []) rfl rfl (Nat.le_of_ble_eq_true rfl) (by decide) (cc_X5_nextAnswered0 R W0) (fun r1 h q1 => ?_)
  obtain ⟨rfl, rfl⟩ := q1
  show gx_Ev _ _ _ _ _ [va_rf (gs_op (sc_na (sc_r0 σ) 0 ((sc_r0 σ).1 1 0 0)) (fun z => A 3 z 0))] _ _
  rw [show (sc_r0 σ).1 1 0 0 = σ.1 1 0 0 from by rw [f0]]
  have hle := sc_na_le (sc_r0 σ) 0 (σ.1 1 0 0)
  have K1 : ∀ (e9 : Nat), e9 = sc_na (sc_r0 σ) 0 (σ.1 1 0 0) → gx_Ev S gm_X5_replayGivesTheSame 5 26 [some (.ref (A 5 0 0)), (some (va_rf (gs_op e9 (fun z => A 3 z 0)))), some (.int (nI 0))] [] h (fun r h' => gx_rt (some .boolean) r ∧ gs_R h' (sc_rg σ).2 A ∧ r = some (.int (gs_bi ((sc_rg σ).1 = true)))) := by
    intro e9 hE
    have hg : sc_rg σ = if (sc_rl (σ.1 1 0 0) e9 (sc_r0 σ)).1 = true then (sc_kc (sc_rl (σ.1 1 0 0) e9 (sc_r0 σ)).2 16 0, (sc_rl (σ.1 1 0 0) e9 (sc_r0 σ)).2) else (false, (sc_rl (σ.1 1 0 0) e9 (sc_r0 σ)).2) := by rw [hE]; rfl
    refine cl_rl (σ.1 1 0 0) 0 e9 (sc_r0 σ) _ (by rw [f0]; omega) (by rw [f0, hE]; exact hle) W0 R (fun ht h w1 v g1 R1 => ?_) (fun hf h R1 => ?_)
    · refine gx_iconst dX5_replayGivesTheSame_60 (v := 0) (by decide) ?_
      refine gx_istore_n dX5_replayGivesTheSame_61 (by decide) g1 (L' := [some (.ref (A 5 0 0)), w1, some (.int 0)]) rfl ?_
      have k := cl_kc (S := S) R1 w1 g1 16 0 rfl
      refine k.mono (fun r h9 q9 => ⟨q9.1, ?_, ?_⟩)
      · rw [hg, if_pos ht, q9.2.1]; exact R1
      · rw [hg, if_pos ht]; exact q9.2.2
    · exact ⟨⟨_, rfl, rfl⟩, by rw [hg, if_neg (by rw [hf]; decide)]; exact R1, congrArg (fun z => some (Value.int z)) (gs_bf (by rw [hg, if_neg (by rw [hf]; decide)]; exact fun z => by cases z))⟩
  generalize hE : sc_na (sc_r0 σ) 0 (σ.1 1 0 0) = e9 at *
  have k9 := K1 e9 rfl
  rcases gs_zs e9 with h7 | ⟨e6, h7⟩
  · subst h7
    show gx_Ev _ _ _ _ _ [.null] _ _
    refine gx_astore_nN dX5_replayGivesTheSame_23 (by decide) rfl (L' := [some (.ref (A 5 0 0)), some (.null), none]) rfl ?_
    refine gx_iconst dX5_replayGivesTheSame_24 (v := 0) (by decide) ?_
    refine gx_istore_n dX5_replayGivesTheSame_25 (by decide) rfl (L' := [some (.ref (A 5 0 0)), some (.null), some (.int 0)]) rfl ?_
    exact k9
  · subst h7
    show gx_Ev _ _ _ _ _ [.ref (A 3 e6 0)] _ _
    refine gx_astore_n dX5_replayGivesTheSame_23 (by decide) rfl (L' := [some (.ref (A 5 0 0)), some (.ref (A 3 e6 0)), none]) rfl ?_
    refine gx_iconst dX5_replayGivesTheSame_24 (v := 0) (by decide) ?_
    refine gx_istore_n dX5_replayGivesTheSame_25 (by decide) rfl (L' := [some (.ref (A 5 0 0)), some (.ref (A 3 e6 0)), some (.int 0)]) rfl ?_
    exact k9
abbrev sc_agc (σ : gs_T) : Prop := sc_go σ (σ.1 0 0 0) 0 = true ∧ sc_co σ (σ.1 1 0 0) 0 = true
def sc_ags (σ : gs_T) : gs_T := if sc_agc σ then (sc_rg σ).2 else σ
abbrev sc_agr (σ : gs_T) : Prop := sc_agc σ ∧ (sc_rg σ).1 = true
set_option maxHeartbeats 4000000 in
theorem cc_X5_agree {S : gx_S} {h : gx_H} {σ : gs_T} {A : gs_A} (R : gs_R h σ A) (W : gw_W σ) : gx_Cn S gm_X5_agree 6 [.ref (A 5 0 0)] h (fun r h' => gs_R h' (sc_ags σ) A ∧ r = some (.int (gs_bi (sc_agr σ)))) := by
  refine gx_Cn.of gt_X5_agree (by simp [Value.category]) (Nat.le_of_ble_eq_true rfl) ?_
  show gx_Ev S gm_X5_agree 6 0 [some (.ref (A 5 0 0))] [] h _
  refine gx_aload_n dX5_agree_0 rfl ?_
  refine gx_invV dX5_agree_1 wm_X5_174 gt_X5_groupsTookInOrder wy_X5_groupsTookInOrder wl_X5_groupsTookInOrder (ci := 5) rfl rfl (gs_g5 R ) (As := []) (rest := []) rfl rfl (Nat.le_of_ble_eq_true rfl) (by decide) (cc_X5_groupsTookInOrder R W) (fun r1 h q1 => ?_)
  obtain ⟨rfl, rfl⟩ := q1
  show gx_Ev _ _ _ _ _ [.int (gs_bi (sc_go σ (σ.1 0 0 0) 0 = true))] _ _
  refine gx_if_eq dX5_agree_4 (tgt := 25) (by decide) (fun h1 => ?_) (fun h1 => ?_)
  · have h1 := gs_b0 h1
    refine gx_iconst dX5_agree_25 (v := 0) (by decide) ?_
    refine gx_ireturn dX5_agree_26 ?_
    exact ⟨⟨_, rfl, rfl⟩, by rw [sc_ags, if_neg (fun z => h1 z.1)]; exact R, congrArg (fun z => some (Value.int z)) (gs_bf (fun z => h1 z.1.1))⟩
  · have h1 := gs_b1 h1
    refine gx_aload_n dX5_agree_7 rfl ?_
    refine gx_invV dX5_agree_8 wm_X5_178 gt_X5_clientsWereFollowed wy_X5_clientsWereFollowed wl_X5_clientsWereFollowed (ci := 5) rfl rfl (gs_g5 R ) (As := []) (rest := []) rfl rfl (Nat.le_of_ble_eq_true rfl) (by decide) (cc_X5_clientsWereFollowed R W) (fun r1 h q1 => ?_)
    obtain ⟨rfl, rfl⟩ := q1
    show gx_Ev _ _ _ _ _ [.int (gs_bi (sc_co σ (σ.1 1 0 0) 0 = true))] _ _
    refine gx_if_eq dX5_agree_11 (tgt := 25) (by decide) (fun h2 => ?_) (fun h2 => ?_)
    · have h2 := gs_b0 h2
      refine gx_iconst dX5_agree_25 (v := 0) (by decide) ?_
      refine gx_ireturn dX5_agree_26 ?_
      exact ⟨⟨_, rfl, rfl⟩, by rw [sc_ags, if_neg (fun z => h2 z.2)]; exact R, congrArg (fun z => some (Value.int z)) (gs_bf (fun z => h2 z.1.2))⟩
    · have h2 := gs_b1 h2
      refine gx_aload_n dX5_agree_14 rfl ?_
      refine gx_invV dX5_agree_15 wm_X5_181 gt_X5_replayGivesTheSame wy_X5_replayGivesTheSame wl_X5_replayGivesTheSame (ci := 5) rfl rfl (gs_g5 R ) (As := []) (rest := []) rfl rfl (Nat.le_of_ble_eq_true rfl) (by decide) (cc_X5_replayGivesTheSame R W) (fun r1 h q1 => ?_)
      obtain ⟨R, rfl⟩ := q1
      show gx_Ev _ _ _ _ _ [.int (gs_bi ((sc_rg σ).1 = true))] _ _
      refine gx_if_eq dX5_agree_18 (tgt := 25) (by decide) (fun h3 => ?_) (fun h3 => ?_)
      · have h3 := gs_b0 h3
        refine gx_iconst dX5_agree_25 (v := 0) (by decide) ?_
        refine gx_ireturn dX5_agree_26 ?_
        exact ⟨⟨_, rfl, rfl⟩, by rw [sc_ags, if_pos ⟨h1, h2⟩]; exact R, congrArg (fun z => some (Value.int z)) (gs_bf (fun z => h3 z.2))⟩
      · have h3 := gs_b1 h3
        refine gx_iconst dX5_agree_21 (v := 1) (by decide) ?_
        refine gx_goto dX5_agree_22 (tgt := 26) (by decide) ?_
        refine gx_ireturn dX5_agree_26 ?_
        exact ⟨⟨_, rfl, rfl⟩, by rw [sc_ags, if_pos ⟨h1, h2⟩]; exact R, congrArg (fun z => some (Value.int z)) (gs_bt ⟨⟨h1, h2⟩, h3⟩)⟩
