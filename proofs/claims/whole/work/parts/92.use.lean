/-! the step: what is left alone, use, the end of a step, the whole -/
theorem k_ep_ne {I : xI} {a j : Nat} (h : a ≠ 1) : k_ep I a j = I a j := by
  unfold k_ep
  rw [x_up_ne (by omega), x_up_ne (by omega)]
theorem k_eu_ne {I : xI} {a j : Nat} (h : a ≠ 1) : k_eu I a j = I a j := by
  unfold k_eu
  rw [x_up_ne (by omega), x_up_ne (by omega)]
theorem k_fo_ne {I : xI} {nd a j : Nat} (h : a ≠ nd ∨ (j ≠ 6 ∧ j ≠ 7)) : k_fo I nd a j = I a j := by
  unfold k_fo
  rw [x_up_ne (by omega), x_up_ne (by omega)]
theorem k_gt_ne {I : xI} {nd a j : Nat} (h : a ≠ nd ∨ (j ≠ 8 ∧ j ≠ 9)) : k_gt I nd a j = I a j := by
  unfold k_gt
  rw [x_up_ne (by omega), x_up_ne (by omega)]
theorem k_note_ne {I : xI} {nd a j : Nat} {w ob v : Int32} (h : a ≠ nd ∨ j < 13) : k_note I nd w ob v a j = I a j := by
  unfold k_note
  rw [x_up_ne (by omega), x_up_ne (by omega), x_up_ne (by omega), x_up_ne (by omega)]
theorem k_aj_ne {I : xI} {nd a j : Nat} {p : Int32} (h : 8 ≤ a) (h2 : a ≠ nd ∨ (j ≠ 6 ∧ j ≠ 7)) : k_aj I nd p a j = I a j := by
  have e1 : k_aj1 I nd p a j = I a j := (k_wh_ne (by omega) (by omega)).trans (x_up_ne (by omega))
  have e2 : k_aj2 I nd p a j = I a j := (k_arI_ne (by omega) (by omega)).trans e1
  have e3 : k_aj3 I nd p a j = I a j := (k_wh_ne (by omega) (by omega)).trans e2
  have e4 : k_aj4 I nd p a j = I a j := (k_arI_ne (by omega) (by omega)).trans e3
  unfold k_aj
  by_cases c1 : k_arV (k_aj1 I nd p) 4 5 = 0
  · rw [if_pos c1]
    exact e2
  rw [if_neg c1]
  by_cases c2 : k_arV (k_aj3 I nd p) 6 7 = 0
  · rw [if_pos c2]
    exact e4
  rw [if_neg c2, x_up_ne (by omega), x_up_ne (by omega)]
  exact e4
theorem k_se_ne {I : xI} {nd a j : Nat} (h : 8 ≤ a) (h2 : j ≠ 6 ∧ j ≠ 7) : k_se I nd a j = I a j := by
  unfold k_se
  by_cases c1 : k_behind (I nd 7) = I nd 0
  · rw [if_pos c1, k_eu_ne (by omega)]
  rw [if_neg c1]
  by_cases c2 : k_aj I nd (k_behind (I nd 7)) nd 6 = k_behind (I nd 7)
  · rw [if_pos c2, k_ep_ne (by omega), k_aj_ne h (by omega)]
  · rw [if_neg c2, k_aj_ne h (by omega)]
theorem k_poI_ne {I : xI} {nd a j : Nat} (h : 8 ≤ a) (h2 : j ≠ 6 ∧ j ≠ 7 ∧ j ≠ 8) : k_poI I nd a j = I a j := by
  unfold k_poI
  by_cases c1 : k_pp I nd = x_up I nd 8 0 nd 6
  · rw [if_pos c1, k_ep_ne (by omega), x_up_ne (by omega)]
  rw [if_neg c1]
  by_cases c2 : k_aj (x_up I nd 8 0) nd (k_pp I nd) nd 6 = k_aj (x_up I nd 8 0) nd (k_pp I nd) nd 0
  · rw [if_pos c2, k_eu_ne (by omega), k_aj_ne h (by omega), x_up_ne (by omega)]
  · rw [if_neg c2, k_ep_ne (by omega), k_aj_ne h (by omega), x_up_ne (by omega)]
theorem k_ps_ne {I : xI} {nd a j : Nat} (h : 8 ≤ a) (h2 : j ≠ 6 ∧ j ≠ 7 ∧ j ≠ 8 ∧ j ≠ 9) : k_ps I nd a j = I a j := by
  have e1 : k_ps1 I nd a j = I a j := k_wh_ne (by omega) (by omega)
  have e2 : k_ps2 I nd a j = I a j := (k_arI_ne (by omega) (by omega)).trans e1
  have e3 : k_ps3 I nd a j = I a j := (x_up_ne (by omega)).trans e2
  have e4 : k_ps4 I nd a j = I a j := (x_up_ne (by omega)).trans ((x_up_ne (by omega)).trans e3)
  have e5 : k_ps5 I nd a j = I a j := (x_up_ne (by omega)).trans e2
  unfold k_ps
  by_cases c1 : k_arV (k_ps1 I nd) 4 5 = 0
  · rw [if_pos c1]
    by_cases c2 : k_ps3 I nd 1 8 < 2
    · rw [if_pos c2]
      exact e3
    · rw [if_neg c2, x_up_ne (by omega)]
      exact e4
  · rw [if_neg c1, k_eu_ne (by omega), k_gt_ne (by omega)]
    exact e5
theorem k_sn_ne {I : xI} {nd sa a j : Nat} (h : 8 ≤ a) (h2 : a ≠ sa) (h3 : j < 13) : k_sn I nd sa a j = I a j := by
  have e1 : k_sn1 I nd sa a j = I a j := k_renew_ne h2
  have e2 : k_sn2 I nd sa a j = I a j := (k_wh_ne (by omega) (by omega)).trans e1
  have e3 : k_sn3 I nd sa a j = I a j := (k_wd_ne (by omega) (by omega)).trans e2
  have e4 : k_sn4 I nd sa a j = I a j := (k_arI_ne (by omega) (by omega)).trans e3
  unfold k_sn
  by_cases c1 : k_arV (k_sn3 I nd sa) 4 5 = 0
  · rw [if_pos c1]
    exact e4
  · rw [if_neg c1, k_note_ne (by omega)]
    exact e4
theorem k_ws_ne {I : xI} {a j : Nat} (h : 8 ≤ a) (h2 : j ≠ 6 ∧ j ≠ 7) : k_ws I a j = I a j := by
  have e1 : k_si I a j = I a j := x_up_ne (by omega)
  unfold k_ws
  by_cases c1 : k_lp (k_si I) 6 0 = -1
  · rw [if_pos c1]
    exact e1
  rw [if_neg c1]
  by_cases c2 : 4 + 2 * k_lp (k_si I) 6 0 ≤ k_si I 1 9
  · rw [if_pos c2, x_up_ne (by omega), x_up_ne (by omega), k_fo_ne (by omega), x_up_ne (by omega)]
    exact e1
  · rw [if_neg c2]
    exact e1
def k_m12 (I : xI) : Prop := ∀ n, n < 6 → ∃ m, m ≤ 3 ∧ I (8 + 10 * n) 12 = nI m
theorem k_tlI_12 {I : xI} {nd ra n : Nat} {v : Int32} (hra : 101 ≤ ra) (hn : n < 6) : k_tlI I nd ra v (8 + 10 * n) 12 = I (8 + 10 * n) 12 := by
  unfold k_tlI
  by_cases c1 : k_tl6 I ra v ra 6 = 0
  · rw [if_pos c1, k_tl6_ne (by omega)]
  · rw [if_neg c1, x_up_ne (by omega), k_tl6_ne (by omega)]
theorem k_srI_12 {I : xI} {nd ra t : Nat} (hra : 101 ≤ ra) (ht : t < 6) (et : I ra 1 = nI t) (h : k_m12 I) : k_m12 (k_srI I nd ra) := by
  intro n hn
  have b2 : k_sr2 I nd ra (8 + 10 * n) 12 = I (8 + 10 * n) 12 := k_sr2_ne (by omega) (by omega) (by omega)
  unfold k_srI
  by_cases c1 : k_arV (k_wa I nd ra) 4 5 = 0
  · rw [if_pos c1, k_tlI_12 hra hn, b2]
    exact h n hn
  · rw [if_neg c1, k_tlI_12 hra hn, k_arI_ne (by omega) (by omega), k_wn_ne (by omega) (by omega)]
    obtain ⟨m, hm, em⟩ := h t ht
    have e1 : k_sr2 I nd ra ra 1 = nI t := by rw [k_sr2_ne (by omega) (by omega) (by omega)]; exact et
    have e2 : k_nd (k_sr2 I nd ra ra 1) = 8 + 10 * t := by rw [e1]; exact k_nd_nI (by omega)
    have em2 : k_sr2 I nd ra (8 + 10 * t) 12 = nI m := by rw [k_sr2_ne (by omega) (by omega) (by omega)]; exact em
    have e3 : k_tn (k_sr2 I nd ra (8 + 10 * t) 12) = m := by rw [em2]; exact k_tn_nI (by omega)
    unfold k_sr3
    by_cases c8 : k_sr2 I nd ra ra 8 = 0
    · rw [if_pos c8, e2, e3]
      unfold k_co
      rw [k_settle_ne (by omega)]
      by_cases hnt : n = t
      · subst hnt
        exact k_coI_12 hm em2
      · rw [k_coI_ne hm (by omega), b2]
        exact h n hn
    · rw [if_neg c8, b2]
      exact h n hn
def k_ut (I : xI) (nd : Nat) : xI := if 3 ≤ I nd 8 then x_up I 1 6 1 else if I nd 6 = I nd 0 then x_up I 1 6 1 else k_ep I
theorem k_ut_ne {I : xI} {nd a j : Nat} (h : a ≠ 1) : k_ut I nd a j = I a j := by
  unfold k_ut
  by_cases c1 : 3 ≤ I nd 8
  · rw [if_pos c1, x_up_ne (by omega)]
  rw [if_neg c1]
  by_cases c2 : I nd 6 = I nd 0
  · rw [if_pos c2, x_up_ne (by omega)]
  · rw [if_neg c2, k_ep_ne h]
def k_due (I : xI) (nd : Nat) : Option Nat := k_srch (fun k => !decide (I (nd + 7 + k) 3 = 0)) (k_tn (I nd 12)) 0
abbrev k_us1 (I : xI) : xI := x_up I 1 7 (I 1 7 + 1)
def k_q0 (P : xP) (nd : Nat) : Nat := (P (nd + 5) 0).getD 0
def k_useV (I : xI) (nd : Nat) : Int32 := if 2 ≤ I 1 7 then 1 else match k_due I nd with
  | some _ => 0
  | none => if I nd 11 ≤ 0 then 1 else 0
def k_useI (I : xI) (P : xP) (nd : Nat) : xI := if 2 ≤ I 1 7 then k_ut I nd else match k_due I nd with
  | some k => k_sn (k_us1 I) nd (nd + 7 + k)
  | none => if I nd 11 ≤ 0 then k_ut I nd else k_srI (k_us1 I) nd (k_q0 P nd)
def k_useP (I : xI) (P : xP) (nd : Nat) : xP := if 2 ≤ I 1 7 then P else match k_due I nd with
  | some _ => P
  | none => if I nd 11 ≤ 0 then P else k_srP (k_us1 I) P nd (k_q0 P nd)
theorem k_es1_ne {I : xI} {nd a j m : Nat} (em : I nd 12 = nI m) (hm : m ≤ 3) (h : a < nd + 2 ∨ nd + 10 ≤ a ∨ a = nd + 5 ∨ a = nd + 6) : k_es1 I nd a j = I a j := by
  unfold k_es1
  by_cases c1 : I nd 5 = 0
  · rw [if_pos c1]
  · have e1 : k_tn (k_run I nd nd 12) = m := by rw [k_run_ne (by omega) (by omega) (by omega), em]; exact k_tn_nI (by omega)
    rw [if_neg c1, e1, k_fd_ne m (by omega), k_run_ne (by omega) (by omega) (by omega)]
theorem k_es_ne {I : xI} (hm : k_m12 I) : ∀ k, k ≤ 6 → ∀ a j : Nat, (a < 8 ∨ (∃ n, n < 6 ∧ a = 8 + 10 * n) ∨ 68 ≤ a) → k_es I k a j = I a j
  | 0, _, _, _, _ => rfl
  | k + 1, hk, a, j, ha => by
    obtain ⟨m, h1, h2⟩ := hm k (by omega)
    have ih := k_es_ne hm k (by omega)
    show k_es1 (k_es I k) (8 + 10 * k) a j = _
    rw [k_es1_ne (m := m) ((ih (8 + 10 * k) 12 (Or.inr (Or.inl ⟨k, by omega, rfl⟩))).trans h2) h1 (by rcases ha with h | ⟨n, h3, h4⟩ | h <;> omega)]
    exact ih a j ha
def k_after (I : xI) (nd : Nat) : xI := if I 1 6 = 1 then (if k_poV I nd = 0 then k_poI I nd else k_ps (k_poI I nd) nd) else k_ps I nd
def k_maI (I : xI) (P : xP) : xI := if I 1 5 = -1 then k_ws I else if I 1 6 = 3 then k_se I (k_nd (I 1 5)) else if I 1 6 = 0 then (if k_useV I (k_nd (I 1 5)) = 0 then k_useI I P (k_nd (I 1 5)) else k_after (k_useI I P (k_nd (I 1 5))) (k_nd (I 1 5))) else k_after I (k_nd (I 1 5))
def k_maP (I : xI) (P : xP) : xP := if I 1 5 = -1 then P else if I 1 6 = 3 then P else if I 1 6 = 0 then k_useP I P (k_nd (I 1 5)) else P
def k_stI (I : xI) (P : xP) : xI := k_end (k_maI (k_bs I) P)
def k_stP (I : xI) (P : xP) : xP := k_maP (k_bs I) P
section part92
variable {G : xG} {z : Nat} {I : Nat → Nat → Int32} {P : Nat → Nat → Option Nat} {post : Option Value → xH → Prop}
set_option maxRecDepth 100000 in
set_option maxHeartbeats 1000000 in
theorem l_B_endStep_27 (hb : x_bus z P) (hm : k_m12 I) (hp : post none (z, k_es I 6, P)) : ∀ n k : Nat, n + k = 6 → xp G M_B_endStep 27 [(0, .ref 1), (1, .ref 2), (2, .int (nI 6)), (3, .int (nI k))] [] (z, k_es I k, P) 0 0 post := by
  obtain ⟨⟨tB, tns, trs, tF, tFb, tG, tGb⟩, ⟨b0, b1, b2, b3, b4, b5⟩, hns, hnd⟩ := id hb
  intro n
  induction n with
  | zero =>
    intro k hk
    have hk : k = 6 := by omega
    subst hk
    refine xp_iload_n d_B_endStep_27 rfl ?_
    refine xp_iload_n d_B_endStep_28 rfl ?_
    refine xp_icmp_ge (tgt := 61) d_B_endStep_29 (by decide) (fun c29 => ?_) (fun c29 => absurd (show (nI 6 : Int32) ≤ nI 6 by decide) c29)
    refine xp_return_ d_B_endStep_61 rfl ?_
    exact hp
  | succ n ih =>
    intro k hk
    obtain ⟨m, h1, h2⟩ := hm k (by omega)
    have tN := (hnd k (by omega)).1.1
    have e12 : k_es I k (8 + 10 * k) 12 = nI m := (k_es_ne hm k (by omega) (8 + 10 * k) 12 (Or.inr (Or.inl ⟨k, by omega, rfl⟩))).trans h2
    have e13 : k_run (k_es I k) (8 + 10 * k) (8 + 10 * k) 12 = nI m := by rw [k_run_ne (by omega) (by omega) (by omega)]; exact e12
    have e14 : k_tn (k_run (k_es I k) (8 + 10 * k) (8 + 10 * k) 12) = m := by rw [e13]; exact k_tn_nI (by omega)
    have hh := ih (k + 1) (by omega)
    unfold k_es k_es1 at hh
    rw [e14] at hh
    refine xp_iload_n d_B_endStep_27 rfl ?_
    refine xp_iload_n d_B_endStep_28 rfl ?_
    refine xp_icmp_ge (tgt := 61) d_B_endStep_29 (by decide) (fun c29 => absurd c29 (fun q => by have := (nI_leI (a := 6) (b := k) (by decide) (by omega)).mp q; omega)) (fun c29 => ?_)
    refine xp_aload_n d_B_endStep_32 rfl ?_
    refine xp_iload_n d_B_endStep_33 rfl ?_
    refine xq_aaload d_B_endStep_34 (by assumption) (by decide) rfl (by omega) (by decide) (hns k (by omega)) ?_
    refine xp_astore d_B_endStep_35 (by decide) ?_
    refine xp_aload d_B_endStep_37 rfl ?_
    refine xq_getI d_B_endStep_39 fg_B_42 (by assumption) ?_
    refine xp_if_eq (tgt := 55) d_B_endStep_42 (by decide) (fun c42 => ?_) (fun c42 => ?_)
    · skip
      refine xp_inc1 d_B_endStep_55 rfl (by decide) ?_
      refine xp_goto (tgt := 27) d_B_endStep_58 (by decide) ?_
      refine xp_loc (lv' := [(0, .ref 1), (1, .ref 2), (2, .int (nI 6)), (3, .int (nI (k + 1)))]) ⟨rfl, rfl, rfl, rfl, trivial⟩ ?_
      simp only [if_pos c42] at hh
      exact hh
    · skip
      refine xp_aload d_B_endStep_45 rfl ?_
      refine xq_V0v d_B_endStep_47 g_B_endStep_177 (by assumption) rfl rfl ?_
      refine c_N_runLoop (hnd k (by omega)) ?_
      refine ⟨rfl, ?_⟩
      refine xp_aload d_B_endStep_50 rfl ?_
      refine xq_V0v d_B_endStep_52 g_B_endStep_180 (by assumption) rfl rfl ?_
      refine c_N_findDue (hnd k (by omega)) e13 h1 ?_
      refine ⟨rfl, ?_⟩
      refine xp_inc1 d_B_endStep_55 rfl (by decide) ?_
      refine xp_goto (tgt := 27) d_B_endStep_58 (by decide) ?_
      refine xp_loc (lv' := [(0, .ref 1), (1, .ref 2), (2, .int (nI 6)), (3, .int (nI (k + 1)))]) ⟨rfl, rfl, rfl, rfl, trivial⟩ ?_
      simp only [if_neg c42] at hh
      exact hh
set_option maxRecDepth 100000 in
set_option maxHeartbeats 1000000 in
theorem c_B_endStep (hb : x_bus z P) (hm : k_m12 I) (hp : post none (z, k_end I, P)) : xp G M_B_endStep 0 [(0, .ref 1)] [] (z, I, P) 0 0 post := by
  obtain ⟨⟨tB, tns, trs, tF, tFb, tG, tGb⟩, ⟨b0, b1, b2, b3, b4, b5⟩, hns, hnd⟩ := id hb
  refine xp_aload_n d_B_endStep_0 rfl ?_
  refine xp_dup d_B_endStep_1 rfl ?_
  refine xq_getI d_B_endStep_2 fg_B_158 (by assumption) ?_
  refine xp_aload_n d_B_endStep_5 rfl ?_
  refine xq_getI d_B_endStep_6 fg_B_118 (by assumption) ?_
  refine xp_iadd d_B_endStep_9 ?_
  refine xq_putI d_B_endStep_10 f_B_158 (by assumption) ?_
  refine xp_aload_n d_B_endStep_13 rfl ?_
  refine xq_V0v d_B_endStep_14 g_B_endStep_82 (by assumption) rfl rfl ?_
  refine c_B_forgetSpoiling hb ?_
  refine ⟨rfl, ?_⟩
  refine xp_aload_n d_B_endStep_17 rfl ?_
  refine xq_getR d_B_endStep_18 fg_B_11 (by assumption) (by assumption) ?_
  refine xp_astore_n d_B_endStep_21 (by decide) ?_
  refine xp_aload_n d_B_endStep_22 rfl ?_
  refine xq_alen d_B_endStep_23 (by assumption) (by decide) ?_
  refine xp_istore_n d_B_endStep_24 (by decide) ?_
  refine xp_iconst (v := 0) d_B_endStep_25 (by decide) ?_
  refine xp_istore_n d_B_endStep_26 (by decide) ?_
  refine xp_loc (lv' := [(0, .ref 1), (1, .ref 2), (2, .int (nI 6)), (3, .int (nI 0))]) ⟨rfl, rfl, rfl, rfl, trivial⟩ ?_
  refine l_B_endStep_27 hb (I := k_fs (x_up I 1 12 (I 1 12 + I 1 11))) (fun n hn => ?_) hp 6 0 rfl
  unfold k_fs
  rw [x_up_ne (by omega), x_up_ne (by omega), x_up_ne (by omega)]
  exact hm n hn
set_option maxRecDepth 100000 in
set_option maxHeartbeats 1000000 in
theorem c_B_use (hb : x_bus z P) {h : Nat} (hh : h < 6) {m : Nat} (hm : m ≤ 3) (em : I (8 + 10 * h) 12 = nI m) (hsub : ∀ k, k < m → ∃ sb, sb < 6 ∧ I (8 + 10 * h + 7 + k) 0 = nI sb) {q : Nat} (hq4 : q ≤ 4) (eq : I (8 + 10 * h) 11 = nI q) (hqs : ∀ k, k < q → ∃ r, P (8 + 10 * h + 5) k = some r ∧ x_at 2 z r) (hq0 : 0 < q → ∃ ra t mt, P (8 + 10 * h + 5) 0 = some ra ∧ x_at 2 z ra ∧ 101 ≤ ra ∧ t < 6 ∧ I ra 1 = nI t ∧ mt ≤ 3 ∧ I (8 + 10 * t) 12 = nI mt) {s0 s1 : Nat} (hs0 : s0 < 18) (hs1 : s1 < 18) (e0 : I 4 2 = nI s0) (e1 : I 6 2 = nI s1) (hp : post (some (.int (k_useV I (8 + 10 * h)))) (z, k_useI I P (8 + 10 * h), k_useP I P (8 + 10 * h))) : xp G M_B_use 0 [(0, .ref 1), (1, .ref (8 + 10 * h))] [] (z, I, P) 0 0 post := by
  obtain ⟨⟨tB, tns, trs, tF, tFb, tG, tGb⟩, ⟨b0, b1, b2, b3, b4, b5⟩, hns, hnd⟩ := id hb
  obtain ⟨⟨tN, tO, tna, tfl, tL, tq, ts⟩, hs3, ⟨p1, p2, p3, p4, p5, p6⟩, hss⟩ := hnd h hh
  unfold k_useV k_useI k_useP at hp
  refine xp_aload_n d_B_use_0 rfl ?_
  refine xq_V0r d_B_use_1 g_B_use_190 (by assumption) rfl rfl ?_
  refine c_N_firstDue (hnd h hh) em hm (fun k1 hk1 => ?_) (fun hk1 => ?_)
  · refine ⟨_, rfl, ?_⟩
    have ed : k_due I (8 + 10 * h) = some k1 := by unfold k_due; rw [em, k_tn_nI (by omega)]; exact hk1
    have hlt := k_srch_lt _ _ _ _ hk1
    have hk3 : k1 < 3 := by omega
    obtain ⟨sb, hsb, esb⟩ := hsub k1 (by omega)
    have tS := hs3 k1 hk3
    refine xp_astore_n d_B_use_4 (by decide) ?_
    refine xp_aload_n d_B_use_5 rfl ?_
    refine xq_getI d_B_use_6 fg_B_194 (by assumption) ?_
    refine xp_iconst (v := 2) d_B_use_9 (by decide) ?_
    refine xp_icmp_ge (tgt := 60) d_B_use_10 (by decide) (fun c10 => ?_) (fun c10 => ?_)
    · skip
      refine xp_aload_n d_B_use_60 rfl ?_
      refine xq_getI d_B_use_61 fg_B_208 (by assumption) ?_
      refine xp_iconst (v := 3) d_B_use_64 (by decide) ?_
      refine xp_icmp_ge (tgt := 79) d_B_use_65 (by decide) (fun c65 => ?_) (fun c65 => ?_)
      · skip
        refine xp_aload_n d_B_use_79 rfl ?_
        refine xp_iconst (v := 1) d_B_use_80 (by decide) ?_
        refine xq_putI d_B_use_81 f_B_98 (by assumption) ?_
        refine xp_goto (tgt := 91) d_B_use_84 (by decide) ?_
        refine xp_iconst (v := 1) d_B_use_91 (by decide) ?_
        refine xp_ireturn d_B_use_92 rfl (x_bit (by first | exact Or.inl rfl | exact Or.inr rfl | assumption)).1 ?_
        simp only [k_ut, ed, if_pos c10, if_pos c65] at hp
        exact hp
      · skip
        refine xp_aload_n d_B_use_68 rfl ?_
        refine xq_getI d_B_use_69 fg_B_211 (by assumption) ?_
        refine xp_aload_n d_B_use_72 rfl ?_
        refine xq_getI d_B_use_73 fg_B_214 (by assumption) ?_
        refine xp_icmp_ne (tgt := 87) d_B_use_76 (by decide) (fun c76 => ?_) (fun c76 => ?_)
        · skip
          refine xp_aload_n d_B_use_87 rfl ?_
          refine xq_V0v d_B_use_88 g_B_use_217 (by assumption) rfl rfl ?_
          refine c_B_enterPass hb ?_
          refine ⟨rfl, ?_⟩
          refine xp_iconst (v := 1) d_B_use_91 (by decide) ?_
          refine xp_ireturn d_B_use_92 rfl (x_bit (by first | exact Or.inl rfl | exact Or.inr rfl | assumption)).1 ?_
          simp only [k_ut, ed, if_pos c10, if_neg c65, if_neg c76] at hp
          exact hp
        · skip
          refine xp_aload_n d_B_use_79 rfl ?_
          refine xp_iconst (v := 1) d_B_use_80 (by decide) ?_
          refine xq_putI d_B_use_81 f_B_98 (by assumption) ?_
          refine xp_goto (tgt := 91) d_B_use_84 (by decide) ?_
          refine xp_iconst (v := 1) d_B_use_91 (by decide) ?_
          refine xp_ireturn d_B_use_92 rfl (x_bit (by first | exact Or.inl rfl | exact Or.inr rfl | assumption)).1 ?_
          simp only [k_ut, ed, if_pos c10, if_neg c65, if_pos c76] at hp
          exact hp
    · skip
      refine xp_aload_n d_B_use_13 rfl ?_
      refine xp_ifnonnull (tgt := 24) d_B_use_14 (by decide) ?_
      refine xp_aload_n d_B_use_24 rfl ?_
      refine xp_dup d_B_use_25 rfl ?_
      refine xq_getI d_B_use_26 fg_B_194 (by assumption) ?_
      refine xp_iconst (v := 1) d_B_use_29 (by decide) ?_
      refine xp_iadd d_B_use_30 ?_
      refine xq_putI d_B_use_31 f_B_194 (by assumption) ?_
      refine xp_aload_n d_B_use_34 rfl ?_
      refine xp_ifnull d_B_use_35 ?_
      refine xp_aload_n d_B_use_38 rfl ?_
      refine xp_aload_n d_B_use_39 rfl ?_
      refine xp_aload_n d_B_use_40 rfl ?_
      refine xq_V2v d_B_use_41 g_B_use_197 (by assumption) rfl rfl ?_
      refine c_B_sendNotice hb hh hk3 hsb (by rw [x_up_ne (by omega)]; exact esb) hs0 hs1 (by rw [x_up_ne (by omega)]; exact e0) (by rw [x_up_ne (by omega)]; exact e1) ?_
      refine ⟨rfl, ?_⟩
      refine xp_goto (tgt := 58) d_B_use_44 (by decide) ?_
      refine xp_iconst (v := 0) d_B_use_58 (by decide) ?_
      refine xp_ireturn d_B_use_59 rfl (x_bit (by first | exact Or.inl rfl | exact Or.inr rfl | assumption)).1 ?_
      simp only [k_ut, ed, if_neg c10] at hp
      exact hp
  · refine ⟨_, rfl, ?_⟩
    have ed : k_due I (8 + 10 * h) = none := by unfold k_due; rw [em, k_tn_nI (by omega)]; exact hk1
    refine xp_astore_nN d_B_use_4 (by decide) ?_
    refine xp_aload_n d_B_use_5 rfl ?_
    refine xq_getI d_B_use_6 fg_B_194 (by assumption) ?_
    refine xp_iconst (v := 2) d_B_use_9 (by decide) ?_
    refine xp_icmp_ge (tgt := 60) d_B_use_10 (by decide) (fun c10 => ?_) (fun c10 => ?_)
    · skip
      refine xp_aload_n d_B_use_60 rfl ?_
      refine xq_getI d_B_use_61 fg_B_208 (by assumption) ?_
      refine xp_iconst (v := 3) d_B_use_64 (by decide) ?_
      refine xp_icmp_ge (tgt := 79) d_B_use_65 (by decide) (fun c65 => ?_) (fun c65 => ?_)
      · skip
        refine xp_aload_n d_B_use_79 rfl ?_
        refine xp_iconst (v := 1) d_B_use_80 (by decide) ?_
        refine xq_putI d_B_use_81 f_B_98 (by assumption) ?_
        refine xp_goto (tgt := 91) d_B_use_84 (by decide) ?_
        refine xp_iconst (v := 1) d_B_use_91 (by decide) ?_
        refine xp_ireturn d_B_use_92 rfl (x_bit (by first | exact Or.inl rfl | exact Or.inr rfl | assumption)).1 ?_
        simp only [k_ut, ed, if_pos c10, if_pos c65] at hp
        exact hp
      · skip
        refine xp_aload_n d_B_use_68 rfl ?_
        refine xq_getI d_B_use_69 fg_B_211 (by assumption) ?_
        refine xp_aload_n d_B_use_72 rfl ?_
        refine xq_getI d_B_use_73 fg_B_214 (by assumption) ?_
        refine xp_icmp_ne (tgt := 87) d_B_use_76 (by decide) (fun c76 => ?_) (fun c76 => ?_)
        · skip
          refine xp_aload_n d_B_use_87 rfl ?_
          refine xq_V0v d_B_use_88 g_B_use_217 (by assumption) rfl rfl ?_
          refine c_B_enterPass hb ?_
          refine ⟨rfl, ?_⟩
          refine xp_iconst (v := 1) d_B_use_91 (by decide) ?_
          refine xp_ireturn d_B_use_92 rfl (x_bit (by first | exact Or.inl rfl | exact Or.inr rfl | assumption)).1 ?_
          simp only [k_ut, ed, if_pos c10, if_neg c65, if_neg c76] at hp
          exact hp
        · skip
          refine xp_aload_n d_B_use_79 rfl ?_
          refine xp_iconst (v := 1) d_B_use_80 (by decide) ?_
          refine xq_putI d_B_use_81 f_B_98 (by assumption) ?_
          refine xp_goto (tgt := 91) d_B_use_84 (by decide) ?_
          refine xp_iconst (v := 1) d_B_use_91 (by decide) ?_
          refine xp_ireturn d_B_use_92 rfl (x_bit (by first | exact Or.inl rfl | exact Or.inr rfl | assumption)).1 ?_
          simp only [k_ut, ed, if_pos c10, if_neg c65, if_pos c76] at hp
          exact hp
    · skip
      refine xp_aload_nN d_B_use_13 rfl ?_
      refine xp_ifnonnullN d_B_use_14 ?_
      refine xp_aload_n d_B_use_17 rfl ?_
      refine xq_getI d_B_use_18 fg_B_69 (by assumption) ?_
      refine xp_if_le (tgt := 60) d_B_use_21 (by decide) (fun c21 => ?_) (fun c21 => ?_)
      · skip
        refine xp_aload_n d_B_use_60 rfl ?_
        refine xq_getI d_B_use_61 fg_B_208 (by assumption) ?_
        refine xp_iconst (v := 3) d_B_use_64 (by decide) ?_
        refine xp_icmp_ge (tgt := 79) d_B_use_65 (by decide) (fun c65 => ?_) (fun c65 => ?_)
        · skip
          refine xp_aload_n d_B_use_79 rfl ?_
          refine xp_iconst (v := 1) d_B_use_80 (by decide) ?_
          refine xq_putI d_B_use_81 f_B_98 (by assumption) ?_
          refine xp_goto (tgt := 91) d_B_use_84 (by decide) ?_
          refine xp_iconst (v := 1) d_B_use_91 (by decide) ?_
          refine xp_ireturn d_B_use_92 rfl (x_bit (by first | exact Or.inl rfl | exact Or.inr rfl | assumption)).1 ?_
          simp only [k_ut, ed, if_neg c10, if_pos c21, if_pos c65] at hp
          exact hp
        · skip
          refine xp_aload_n d_B_use_68 rfl ?_
          refine xq_getI d_B_use_69 fg_B_211 (by assumption) ?_
          refine xp_aload_n d_B_use_72 rfl ?_
          refine xq_getI d_B_use_73 fg_B_214 (by assumption) ?_
          refine xp_icmp_ne (tgt := 87) d_B_use_76 (by decide) (fun c76 => ?_) (fun c76 => ?_)
          · skip
            refine xp_aload_n d_B_use_87 rfl ?_
            refine xq_V0v d_B_use_88 g_B_use_217 (by assumption) rfl rfl ?_
            refine c_B_enterPass hb ?_
            refine ⟨rfl, ?_⟩
            refine xp_iconst (v := 1) d_B_use_91 (by decide) ?_
            refine xp_ireturn d_B_use_92 rfl (x_bit (by first | exact Or.inl rfl | exact Or.inr rfl | assumption)).1 ?_
            simp only [k_ut, ed, if_neg c10, if_pos c21, if_neg c65, if_neg c76] at hp
            exact hp
          · skip
            refine xp_aload_n d_B_use_79 rfl ?_
            refine xp_iconst (v := 1) d_B_use_80 (by decide) ?_
            refine xq_putI d_B_use_81 f_B_98 (by assumption) ?_
            refine xp_goto (tgt := 91) d_B_use_84 (by decide) ?_
            refine xp_iconst (v := 1) d_B_use_91 (by decide) ?_
            refine xp_ireturn d_B_use_92 rfl (x_bit (by first | exact Or.inl rfl | exact Or.inr rfl | assumption)).1 ?_
            simp only [k_ut, ed, if_neg c10, if_pos c21, if_neg c65, if_pos c76] at hp
            exact hp
      · skip
        have hq1 : 0 < q := Nat.pos_of_ne_zero (fun e => c21 (by rw [eq, e]; decide))
        obtain ⟨ra, t, mt, hra0, hra1, hra2, ht, et, hmt, emt⟩ := hq0 hq1
        refine xp_aload_n d_B_use_24 rfl ?_
        refine xp_dup d_B_use_25 rfl ?_
        refine xq_getI d_B_use_26 fg_B_194 (by assumption) ?_
        refine xp_iconst (v := 1) d_B_use_29 (by decide) ?_
        refine xp_iadd d_B_use_30 ?_
        refine xq_putI d_B_use_31 f_B_194 (by assumption) ?_
        refine xp_aload_nN d_B_use_34 rfl ?_
        refine xp_ifnullN (tgt := 47) d_B_use_35 (by decide) ?_
        refine xp_aload_n d_B_use_47 rfl ?_
        refine xp_aload_n d_B_use_48 rfl ?_
        refine xp_aload_n d_B_use_49 rfl ?_
        refine xq_getR d_B_use_50 fg_B_201 (by assumption) (by assumption) ?_
        refine xp_iconst (v := 0) d_B_use_53 (by decide) ?_
        refine xq_aaload (j := 0) d_B_use_54 (by assumption) (by decide) rfl (by omega) (by decide) (by assumption) ?_
        refine xq_V2v d_B_use_55 g_B_use_204 (by assumption) rfl rfl ?_
        refine c_B_sendRequest hb hh hra1 hra2 (q := q - 1) (by omega) (fun k hk => hqs k (by omega)) (by rw [x_up_ne (by omega), show q - 1 + 1 = q by omega]; exact eq) ht (by rw [x_up_ne (by omega)]; exact et) hmt (by rw [x_up_ne (by omega)]; exact emt) hs0 hs1 (by rw [x_up_ne (by omega)]; exact e0) (by rw [x_up_ne (by omega)]; exact e1) ?_
        refine ⟨rfl, ?_⟩
        refine xp_iconst (v := 0) d_B_use_58 (by decide) ?_
        refine xp_ireturn d_B_use_59 rfl (x_bit (by first | exact Or.inl rfl | exact Or.inr rfl | assumption)).1 ?_
        have e0q : k_q0 P (8 + 10 * h) = ra := by unfold k_q0; rw [hra0]; rfl
        simp only [ed, e0q, if_neg c10, if_neg c21] at hp
        exact hp
end part92
