/-- what the class's cells keep, so that no index leaves its array -/
def k_ok (z : Nat) (I : xI) (P : xP) : Prop := (∃ s0 s1 : Nat, s0 < 18 ∧ s1 < 18 ∧ I 4 2 = nI s0 ∧ I 6 2 = nI s1) ∧ (∀ n, n < 6 → ∃ m, m ≤ 3 ∧ I (8 + 10 * n) 12 = nI m ∧ ∀ k, k < m → ∃ sb, sb < 6 ∧ I (8 + 10 * n + 7 + k) 0 = nI sb) ∧
  (∀ n, n < 6 → ∃ q, q ≤ 4 ∧ I (8 + 10 * n) 11 = nI q ∧ ∀ k, k < q → ∃ r, P (8 + 10 * n + 5) k = some r ∧ x_at 2 z r ∧ 101 ≤ r ∧ ∃ t, t < 6 ∧ I r 1 = nI t) ∧ (∀ n, n < 6 → ∃ x, x < 6 ∧ I (8 + 10 * n) 6 = nI x) ∧ (I 1 5 = -1 ∨ ∃ h, h < 6 ∧ I 1 5 = nI h)
theorem k_bs_ne {I : xI} {a j : Nat} (h : (a ≠ 1 ∨ (j ≠ 10 ∧ j ≠ 11)) ∧ (a ≠ 4 ∨ j ≠ 1) ∧ (a ≠ 6 ∨ j ≠ 1)) : k_bs I a j = I a j := by
  unfold k_bs
  rw [x_up_ne (by omega), x_up_ne (by omega), x_up_ne (by omega), x_up_ne (by omega)]
theorem k_us1_ne {I : xI} {a j : Nat} (h : a ≠ 1 ∨ j ≠ 7) : k_us1 I a j = I a j := x_up_ne h
theorem k_use_go {I : xI} {P : xP} {nd : Nat} (h : ¬ k_useV I nd = 0) : k_useI I P nd = k_ut I nd ∧ k_useP I P nd = P := by
  unfold k_useV at h
  unfold k_useI k_useP
  by_cases c1 : 2 ≤ I 1 7
  · exact ⟨if_pos c1, if_pos c1⟩
  · simp only [if_neg c1] at h ⊢
    cases hd : k_due I nd with
    | some k =>
      rw [hd] at h
      exact absurd rfl h
    | none =>
      rw [hd] at h
      dsimp only at h ⊢
      by_cases c2 : I nd 11 ≤ 0
      · exact ⟨if_pos c2, if_pos c2⟩
      · rw [if_neg c2] at h
        exact absurd rfl h
theorem k_useP_or (I : xI) (P : xP) (nd : Nat) : k_useP I P nd = P ∨ ∃ q, k_useP I P nd = k_deq P (nd + 5) q := by
  unfold k_useP
  by_cases c1 : 2 ≤ I 1 7
  · exact Or.inl (if_pos c1)
  rw [if_neg c1]
  cases hd : k_due I nd with
  | some k => exact Or.inl rfl
  | none =>
    dsimp only
    by_cases c2 : I nd 11 ≤ 0
    · exact Or.inl (if_pos c2)
    rw [if_neg c2]
    unfold k_srP k_tlP
    by_cases c3 : k_arV (k_wa (k_us1 I) nd (k_q0 P nd)) 4 5 = 0
    · rw [if_pos c3]
      by_cases c4 : k_tl6 (k_sr2 (k_us1 I) nd (k_q0 P nd)) (k_q0 P nd) 0 (k_q0 P nd) 6 = 0
      · exact Or.inl (if_pos c4)
      · exact Or.inr ⟨_, if_neg c4⟩
    · rw [if_neg c3]
      by_cases c4 : k_tl6 (k_arI (k_wn (k_sr3 (k_us1 I) nd (k_q0 P nd)) nd (k_q0 P nd)) 6 7) (k_q0 P nd) (k_arV (k_wn (k_sr3 (k_us1 I) nd (k_q0 P nd)) nd (k_q0 P nd)) 6 7) (k_q0 P nd) 6 = 0
      · exact Or.inl (if_pos c4)
      · exact Or.inr ⟨_, if_neg c4⟩
theorem x_node_row {z : Nat} {P P' : xP} {nd : Nat} (h : x_node z P nd) (h0 : P' nd = P nd) (h1 : P' (nd + 1) = P (nd + 1)) (h6 : P' (nd + 6) = P (nd + 6)) : x_node z P' nd := by
  unfold x_node
  rw [h0, h1, h6]
  exact h
theorem x_bus_deq {z : Nat} {P : xP} {h : Nat} (hh : h < 6) (q : Nat) (hb : x_bus z P) : x_bus z (k_deq P (8 + 10 * h + 5) q) := by
  obtain ⟨a1, a2, a3, a4⟩ := hb
  refine ⟨a1, ?_, fun n hn => ?_, fun n hn => ?_⟩
  · rw [k_deq_ne (by omega), k_deq_ne (by omega), k_deq_ne (by omega)]
    exact a2
  · rw [k_deq_ne (by omega)]
    exact a3 n hn
  · exact x_node_row (a4 n hn) (k_deq_ne (by omega) q) (k_deq_ne (by omega) q) (k_deq_ne (by omega) q)
theorem k_po_go {I : xI} {nd : Nat} (h : ¬ k_poV I nd = 0) : k_poI I nd = k_ep (x_up I nd 8 0) := by
  unfold k_poV at h
  unfold k_poI
  by_cases c1 : k_pp I nd = x_up I nd 8 0 nd 6
  · exact if_pos c1
  · exact absurd (if_neg c1) h
section part94
variable {G : xG} {z : Nat} {I : Nat → Nat → Int32} {P : Nat → Nat → Option Nat} {post : Option Value → xH → Prop}
set_option maxRecDepth 100000 in
set_option maxHeartbeats 1000000 in
theorem l_B_step_101 (hb : x_bus z P) (hm : k_m12 I) (hp : post (some (.int (k_end I 1 11))) (z, k_end I, P)) : xp G M_B_step 101 [(0, .ref 1)] [] (z, I, P) 0 0 post := by
  obtain ⟨⟨tB, tns, trs, tF, tFb, tG, tGb⟩, ⟨b0, b1, b2, b3, b4, b5⟩, hns, hnd⟩ := id hb
  refine xp_aload_n d_B_step_101 rfl ?_
  refine xq_V0v d_B_step_102 g_B_step_115 (by assumption) rfl rfl ?_
  refine c_B_endStep hb hm ?_
  refine ⟨rfl, ?_⟩
  refine xp_aload_n d_B_step_105 rfl ?_
  refine xq_getI d_B_step_106 fg_B_118 (by assumption) ?_
  refine xp_ireturn d_B_step_109 rfl rfl ?_
  exact hp
set_option maxRecDepth 100000 in
set_option maxHeartbeats 1000000 in
theorem l_B_step_74 (hb : x_bus z P) {h : Nat} (hh : h < 6) (hm : k_m12 I) {nx : Nat} (hnx : nx < 6) (enx : I (8 + 10 * h) 6 = nI nx) {s0 s1 : Nat} (hs0 : s0 < 18) (hs1 : s1 < 18) (e0 : I 4 2 = nI s0) (e1 : I 6 2 = nI s1) (hp : post (some (.int (k_end (k_after I (8 + 10 * h)) 1 11))) (z, k_end (k_after I (8 + 10 * h)), P)) : xp G M_B_step 74 [(0, .ref 1), (1, .ref (8 + 10 * h)), (2, .int 1)] [] (z, I, P) 0 0 post := by
  obtain ⟨⟨tB, tns, trs, tF, tFb, tG, tGb⟩, ⟨b0, b1, b2, b3, b4, b5⟩, hns, hnd⟩ := id hb
  unfold k_after at hp
  refine xp_iload_n d_B_step_74 rfl ?_
  refine xp_if_eq (tgt := 92) d_B_step_75 (by decide) (fun h => absurd h (by decide)) (fun _ => ?_)
  refine xp_aload_n d_B_step_78 rfl ?_
  refine xq_getI d_B_step_79 fg_B_98 (by assumption) ?_
  refine xp_iconst (v := 1) d_B_step_82 (by decide) ?_
  refine xp_icmp_ne (tgt := 92) d_B_step_83 (by decide) (fun c83 => ?_) (fun c83 => ?_)
  · skip
    refine xp_iload_n d_B_step_92 rfl ?_
    refine xp_if_eq (tgt := 101) d_B_step_93 (by decide) (fun h => absurd h (by decide)) (fun _ => ?_)
    try have hpo := k_po_go c93
    try have enx2 : k_poI I (8 + 10 * h) (8 + 10 * h) 6 = nI nx := by rw [hpo, k_ep_ne (by omega), x_up_ne (by omega)]; exact enx
    try have e02 : k_poI I (8 + 10 * h) 4 2 = nI s0 := by rw [hpo, k_ep_ne (by omega), x_up_ne (by omega)]; exact e0
    try have e12 : k_poI I (8 + 10 * h) 6 2 = nI s1 := by rw [hpo, k_ep_ne (by omega), x_up_ne (by omega)]; exact e1
    refine xp_aload_n d_B_step_96 rfl ?_
    refine xp_aload_n d_B_step_97 rfl ?_
    refine xq_V1v d_B_step_98 g_B_step_112 (by assumption) rfl rfl ?_
    first
      | refine c_B_pass hb hh hnx enx hs0 hs1 e0 e1 ?_
      | refine c_B_pass hb hh hnx enx2 hs0 hs1 e02 e12 ?_
    refine ⟨rfl, ?_⟩
    refine xp_loc (lv' := [(0, .ref 1)]) ⟨rfl, trivial⟩ ?_
    simp only [if_neg c83] at hp
    exact l_B_step_101 hb (fun n hn => by obtain ⟨m, h1, h2⟩ := hm n hn; exact ⟨m, h1, by first | (rw [k_ps_ne (by omega) (by omega), k_poI_ne (by omega) (by omega)]; exact h2) | (rw [k_ps_ne (by omega) (by omega)]; exact h2) | (rw [k_poI_ne (by omega) (by omega)]; exact h2)⟩) hp
  · skip
    refine xp_aload_n d_B_step_86 rfl ?_
    refine xp_aload_n d_B_step_87 rfl ?_
    refine xq_V1r d_B_step_88 g_B_step_109 (by assumption) rfl rfl ?_
    refine c_B_poll hb hh hs0 hs1 e0 e1 ?_
    refine ⟨_, rfl, ?_⟩
    refine xp_istore_n d_B_step_91 (by decide) ?_
    refine xp_iload_n d_B_step_92 rfl ?_
    refine xp_if_eq (tgt := 101) d_B_step_93 (by decide) (fun c93 => ?_) (fun c93 => ?_)
    · skip
      refine xp_loc (lv' := [(0, .ref 1)]) ⟨rfl, trivial⟩ ?_
      simp only [if_pos c83, if_pos c93] at hp
      exact l_B_step_101 hb (fun n hn => by obtain ⟨m, h1, h2⟩ := hm n hn; exact ⟨m, h1, by first | (rw [k_ps_ne (by omega) (by omega), k_poI_ne (by omega) (by omega)]; exact h2) | (rw [k_ps_ne (by omega) (by omega)]; exact h2) | (rw [k_poI_ne (by omega) (by omega)]; exact h2)⟩) hp
    · skip
      try have hpo := k_po_go c93
      try have enx2 : k_poI I (8 + 10 * h) (8 + 10 * h) 6 = nI nx := by rw [hpo, k_ep_ne (by omega), x_up_ne (by omega)]; exact enx
      try have e02 : k_poI I (8 + 10 * h) 4 2 = nI s0 := by rw [hpo, k_ep_ne (by omega), x_up_ne (by omega)]; exact e0
      try have e12 : k_poI I (8 + 10 * h) 6 2 = nI s1 := by rw [hpo, k_ep_ne (by omega), x_up_ne (by omega)]; exact e1
      refine xp_aload_n d_B_step_96 rfl ?_
      refine xp_aload_n d_B_step_97 rfl ?_
      refine xq_V1v d_B_step_98 g_B_step_112 (by assumption) rfl rfl ?_
      first
        | refine c_B_pass hb hh hnx enx hs0 hs1 e0 e1 ?_
        | refine c_B_pass hb hh hnx enx2 hs0 hs1 e02 e12 ?_
      refine ⟨rfl, ?_⟩
      refine xp_loc (lv' := [(0, .ref 1)]) ⟨rfl, trivial⟩ ?_
      simp only [if_pos c83, if_neg c93] at hp
      exact l_B_step_101 hb (fun n hn => by obtain ⟨m, h1, h2⟩ := hm n hn; exact ⟨m, h1, by first | (rw [k_ps_ne (by omega) (by omega), k_poI_ne (by omega) (by omega)]; exact h2) | (rw [k_ps_ne (by omega) (by omega)]; exact h2) | (rw [k_poI_ne (by omega) (by omega)]; exact h2)⟩) hp
set_option maxRecDepth 100000 in
set_option maxHeartbeats 1000000 in
theorem c_B_step (hb : x_bus z P) (hok : k_ok z I P) (hp : post (some (.int (k_stI I P 1 11))) (z, k_stI I P, k_stP I P)) : xp G M_B_step 0 [(0, .ref 1)] [] (z, I, P) 0 0 post := by
  obtain ⟨⟨tB, tns, trs, tF, tFb, tG, tGb⟩, ⟨b0, b1, b2, b3, b4, b5⟩, hns, hnd⟩ := id hb
  obtain ⟨⟨s0, s1, hs0, hs1, e0, e1⟩, hM, hQ, hX, hH⟩ := id hok
  have f0 : k_bs I 4 2 = nI s0 := by rw [k_bs_ne (by omega)]; exact e0
  have f1 : k_bs I 6 2 = nI s1 := by rw [k_bs_ne (by omega)]; exact e1
  have hM0 : k_m12 (k_bs I) := fun n hn => by obtain ⟨m, h1, h2, -⟩ := hM n hn; exact ⟨m, h1, by rw [k_bs_ne (by omega)]; exact h2⟩
  have hH0 : k_bs I 1 5 = -1 ∨ ∃ h, h < 6 ∧ k_bs I 1 5 = nI h := by rw [k_bs_ne (by omega)]; exact hH
  unfold k_stI k_stP k_maI k_maP at hp
  refine xp_aload_n d_B_step_0 rfl ?_
  refine xq_V0v d_B_step_1 g_B_step_92 (by assumption) rfl rfl ?_
  refine c_B_beginStep hb ?_
  refine ⟨rfl, ?_⟩
  refine xp_aload_n d_B_step_4 rfl ?_
  refine xq_getI d_B_step_5 fg_B_31 (by assumption) ?_
  refine xp_iconst (v := -1) d_B_step_8 (by decide) ?_
  refine xp_icmp_ne (tgt := 19) d_B_step_9 (by decide) (fun c9 => ?_) (fun c9 => ?_)
  · skip
    obtain ⟨h, hh, eh⟩ := hH0.resolve_left c9
    have hk : k_nd (k_bs I 1 5) = 8 + 10 * h := by rw [eh]; exact k_nd_nI (by omega)
    simp only [hk] at hp
    have tN := (hnd h hh).1.1
    obtain ⟨nx, hnx, enx0⟩ := hX h hh
    have enx : k_bs I (8 + 10 * h) 6 = nI nx := by rw [k_bs_ne (by omega)]; exact enx0
    refine xp_aload_n d_B_step_19 rfl ?_
    refine xq_getI d_B_step_20 fg_B_98 (by assumption) ?_
    refine xp_iconst (v := 3) d_B_step_23 (by decide) ?_
    refine xp_icmp_ne (tgt := 43) d_B_step_24 (by decide) (fun c24 => ?_) (fun c24 => ?_)
    · skip
      refine xp_aload_n d_B_step_43 rfl ?_
      refine xq_getR d_B_step_44 fg_B_11 (by assumption) (by assumption) ?_
      refine xp_aload_n d_B_step_47 rfl ?_
      refine xq_getI d_B_step_48 fg_B_31 (by assumption) ?_
      refine xq_aaload d_B_step_51 (by assumption) (by decide) eh (by omega) (by decide) (hns h hh) ?_
      refine xp_astore_n d_B_step_52 (by decide) ?_
      refine xp_aload_n d_B_step_53 rfl ?_
      refine xq_getI d_B_step_54 fg_B_98 (by assumption) ?_
      refine xp_if_ne (tgt := 68) d_B_step_57 (by decide) (fun c57 => ?_) (fun c57 => ?_)
      · skip
        refine xp_iconst (v := 1) d_B_step_68 (by decide) ?_
        refine xp_goto (tgt := 73) d_B_step_69 (by decide) ?_
        refine xp_istore_n d_B_step_73 (by decide) ?_
        refine xp_loc (lv' := [(0, .ref 1), (1, .ref (8 + 10 * h)), (2, .int 1)]) ⟨rfl, rfl, rfl, trivial⟩ ?_
        simp only [if_neg c9, if_neg c24, if_neg c57] at hp
        first
          | (obtain ⟨eI, eP⟩ := k_use_go (P := P) c65
             simp only [eI, eP] at hp ⊢
             exact l_B_step_74 hb hh (fun n hn => by rw [k_ut_ne (by omega)]; exact hM0 n hn) hnx (by rw [k_ut_ne (by omega)]; exact enx) hs0 hs1 (by rw [k_ut_ne (by omega)]; exact f0) (by rw [k_ut_ne (by omega)]; exact f1) hp)
          | exact l_B_step_74 hb hh hM0 hnx enx hs0 hs1 f0 f1 hp
      · skip
        obtain ⟨m, hm, em0, hsub0⟩ := hM h hh
        have em : k_bs I (8 + 10 * h) 12 = nI m := by rw [k_bs_ne (by omega)]; exact em0
        have hsub : ∀ k, k < m → ∃ sb, sb < 6 ∧ k_bs I (8 + 10 * h + 7 + k) 0 = nI sb := fun k hk => by obtain ⟨sb, g1, g2⟩ := hsub0 k hk; exact ⟨sb, g1, by rw [k_bs_ne (by omega)]; exact g2⟩
        obtain ⟨q, hq4, eq0, hqa⟩ := hQ h hh
        have eq : k_bs I (8 + 10 * h) 11 = nI q := by rw [k_bs_ne (by omega)]; exact eq0
        have hqs : ∀ k, k < q → ∃ r, P (8 + 10 * h + 5) k = some r ∧ x_at 2 z r := fun k hk => by obtain ⟨r, g1, g2, -⟩ := hqa k hk; exact ⟨r, g1, g2⟩
        have hq0 : 0 < q → ∃ ra t mt, P (8 + 10 * h + 5) 0 = some ra ∧ x_at 2 z ra ∧ 101 ≤ ra ∧ t < 6 ∧ k_bs I ra 1 = nI t ∧ mt ≤ 3 ∧ k_bs I (8 + 10 * t) 12 = nI mt := fun hq => by
          obtain ⟨ra, g1, g2, g3, t, g4, g5⟩ := hqa 0 hq
          obtain ⟨mt, g6, g7⟩ := hM0 t g4
          exact ⟨ra, t, mt, g1, g2, g3, g4, by rw [k_bs_ne (by omega)]; exact g5, g6, g7⟩
        refine xp_aload_n d_B_step_60 rfl ?_
        refine xp_aload_n d_B_step_61 rfl ?_
        refine xq_V1r d_B_step_62 g_B_step_105 (by assumption) rfl rfl ?_
        refine c_B_use hb hh hm em hsub hq4 eq hqs hq0 hs0 hs1 f0 f1 ?_
        refine ⟨_, rfl, ?_⟩
        refine xp_if_eq (tgt := 72) d_B_step_65 (by decide) (fun c65 => ?_) (fun c65 => ?_)
        · skip
          have hb2 : x_bus z (k_useP (k_bs I) P (8 + 10 * h)) := by rcases k_useP_or (k_bs I) P (8 + 10 * h) with e | ⟨q2, e⟩ <;> rw [e] <;> first | exact hb | exact x_bus_deq hh q2 hb
          have huse : k_m12 (k_useI (k_bs I) P (8 + 10 * h)) := by
            unfold k_useI
            by_cases g1 : 2 ≤ k_bs I 1 7
            · rw [if_pos g1]
              exact fun n hn => by rw [k_ut_ne (by omega)]; exact hM0 n hn
            rw [if_neg g1]
            cases hd : k_due (k_bs I) (8 + 10 * h) with
            | some k =>
              have hlt : k < 3 := by
                unfold k_due at hd
                rw [em, k_tn_nI (by omega)] at hd
                have := k_srch_lt _ _ _ _ hd
                omega
              dsimp only
              exact fun n hn => by rw [k_sn_ne (by omega) (by omega) (by omega), k_us1_ne (by omega)]; exact hM0 n hn
            | none =>
              dsimp only
              by_cases g2 : k_bs I (8 + 10 * h) 11 ≤ 0
              · rw [if_pos g2]
                exact fun n hn => by rw [k_ut_ne (by omega)]; exact hM0 n hn
              · rw [if_neg g2]
                have hq1 : 0 < q := Nat.pos_of_ne_zero (fun e => g2 (by rw [eq, e]; decide))
                obtain ⟨ra, t, mt, q1, q2, q3, q4, q5, -, -⟩ := hq0 hq1
                have e0q : k_q0 P (8 + 10 * h) = ra := by unfold k_q0; rw [q1]; rfl
                rw [e0q]
                exact k_srI_12 q3 q4 (by rw [k_us1_ne (by omega)]; exact q5) (fun n hn => by rw [k_us1_ne (by omega)]; exact hM0 n hn)
          refine xp_iconst (v := 0) d_B_step_72 (by decide) ?_
          refine xp_istore_n d_B_step_73 (by decide) ?_
          refine xp_iload_n d_B_step_74 rfl ?_
          refine xp_if_eq (tgt := 92) d_B_step_75 (by decide) (fun _ => ?_) (fun h => absurd (by decide) h)
          refine xp_iload_n d_B_step_92 rfl ?_
          refine xp_if_eq (tgt := 101) d_B_step_93 (by decide) (fun _ => ?_) (fun h => absurd (by decide) h)
          refine xp_loc (lv' := [(0, .ref 1)]) ⟨rfl, trivial⟩ ?_
          simp only [if_neg c9, if_neg c24, if_pos c57, if_pos c65] at hp
          refine l_B_step_101 hb2 huse hp
        · skip
          refine xp_iconst (v := 1) d_B_step_68 (by decide) ?_
          refine xp_goto (tgt := 73) d_B_step_69 (by decide) ?_
          refine xp_istore_n d_B_step_73 (by decide) ?_
          refine xp_loc (lv' := [(0, .ref 1), (1, .ref (8 + 10 * h)), (2, .int 1)]) ⟨rfl, rfl, rfl, trivial⟩ ?_
          simp only [if_neg c9, if_neg c24, if_pos c57, if_neg c65] at hp
          first
            | (obtain ⟨eI, eP⟩ := k_use_go (P := P) c65
               simp only [eI, eP] at hp ⊢
               exact l_B_step_74 hb hh (fun n hn => by rw [k_ut_ne (by omega)]; exact hM0 n hn) hnx (by rw [k_ut_ne (by omega)]; exact enx) hs0 hs1 (by rw [k_ut_ne (by omega)]; exact f0) (by rw [k_ut_ne (by omega)]; exact f1) hp)
            | exact l_B_step_74 hb hh hM0 hnx enx hs0 hs1 f0 f1 hp
    · skip
      refine xp_aload_n d_B_step_27 rfl ?_
      refine xp_aload_n d_B_step_28 rfl ?_
      refine xq_getR d_B_step_29 fg_B_11 (by assumption) (by assumption) ?_
      refine xp_aload_n d_B_step_32 rfl ?_
      refine xq_getI d_B_step_33 fg_B_31 (by assumption) ?_
      refine xq_aaload d_B_step_36 (by assumption) (by decide) eh (by omega) (by decide) (hns h hh) ?_
      refine xq_V1v d_B_step_37 g_B_step_101 (by assumption) rfl rfl ?_
      refine c_B_search hb hh hs0 hs1 f0 f1 ?_
      refine ⟨rfl, ?_⟩
      refine xp_goto (tgt := 101) d_B_step_40 (by decide) ?_
      refine xp_loc (lv' := [(0, .ref 1)]) ⟨rfl, trivial⟩ ?_
      simp only [if_neg c9, if_pos c24] at hp
      first
        | exact l_B_step_101 hb (fun n hn => by obtain ⟨m, h1, h2⟩ := hM0 n hn; exact ⟨m, h1, by first | (rw [k_ws_ne (by omega) (by omega)]; exact h2) | (rw [k_se_ne (by omega) (by omega)]; exact h2)⟩) hp
  · skip
    refine xp_aload_n d_B_step_12 rfl ?_
    refine xq_V0v d_B_step_13 g_B_step_95 (by assumption) rfl rfl ?_
    refine c_B_waitInSilence hb ?_
    refine ⟨rfl, ?_⟩
    refine xp_goto (tgt := 101) d_B_step_16 (by decide) ?_
    refine xp_loc (lv' := [(0, .ref 1)]) ⟨rfl, trivial⟩ ?_
    simp only [if_pos c9] at hp
    first
      | exact l_B_step_101 hb (fun n hn => by obtain ⟨m, h1, h2⟩ := hM0 n hn; exact ⟨m, h1, by first | (rw [k_ws_ne (by omega) (by omega)]; exact h2) | (rw [k_se_ne (by omega) (by omega)]; exact h2)⟩) hp
end part94
