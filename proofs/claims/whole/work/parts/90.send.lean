/-! sending a request -/
theorem k_settle_ne {I : xI} {r a j : Nat} {d v : Int32} (h : a ≠ r) : k_settle I r d v a j = I a j := by
  unfold k_settle
  repeat rw [x_up_ne (by omega)]
theorem k_rel_ne {I : xI} {fl a j : Nat} {l : Int32} (h : a ≠ fl) : k_rel I fl l a j = I a j := by
  unfold k_rel
  by_cases h1 : k_within l 1 16 = 0
  · rw [if_pos h1]
  · rw [if_neg h1, x_up_ne (by omega)]
theorem k_aim_ne {I : xI} {lo a j : Nat} {v : Int32} (h : a ≠ lo) : k_aim I lo v a j = I a j := by
  unfold k_aim
  by_cases h1 : k_within v (-10000) 10000 = 0
  · rw [if_pos h1]
  · rw [if_neg h1, x_up_ne (by omega)]
theorem k_wrI_ne {I : xI} {nd r a j : Nat} (h : a ≠ nd + 2 ∧ a ≠ nd + 3 ∧ a ≠ nd + 4) : k_wrI I nd r a j = I a j := by
  unfold k_wrI
  by_cases h1 : I r 3 = 1
  · rw [if_pos h1, k_fill_ne h.1 h.2.1]
  · rw [if_neg h1]
    by_cases h2 : I r 3 = 2
    · rw [if_pos h2]
      by_cases h3 : I r 4 = 0
      · rw [if_pos h3, k_aim_ne h.2.2]
      · rw [if_neg h3]
    · rw [if_neg h2]
theorem k_renew_ne {I : xI} {s a j : Nat} {v : Int32} (h : a ≠ s) : k_renew I s v a j = I a j := by
  unfold k_renew
  rw [x_up_ne (by omega), x_up_ne (by omega)]
theorem k_begin_ne {I : xI} {s a j : Nat} {n ob v : Int32} (h : a ≠ s) : k_begin I s n ob v a j = I a j := by
  unfold k_begin
  rw [k_renew_ne h, x_up_ne (by omega), x_up_ne (by omega)]
theorem k_srch_lt (p : Nat → Bool) : ∀ (n k k1 : Nat), k_srch p n k = some k1 → k ≤ k1 ∧ k1 < n + k
  | 0, _, _, h => by cases h
  | n + 1, k, k1, h => by
    unfold k_srch at h
    by_cases hp : p k = true
    · rw [if_pos hp] at h
      cases h
      omega
    · rw [if_neg hp] at h
      have := k_srch_lt p n (k + 1) k1 h
      omega
theorem k_sbI_ne {I : xI} {nd m a j : Nat} {who ob : Int32} (hm : m ≤ 3) (h : a < nd ∨ nd + 10 ≤ a ∨ (a = nd ∧ j ≠ 12)) : k_sbI I nd who ob m a j = I a j := by
  unfold k_sbI
  cases hs : k_srch (fun k => decide (I (nd + 7 + k) 0 = who ∧ I (nd + 7 + k) 1 = ob)) m 0 with
  | some k =>
    have := k_srch_lt _ _ _ _ hs
    exact k_renew_ne (by omega)
  | none =>
    dsimp only
    by_cases h3 : m < 3
    · rw [if_pos h3, x_up_ne (by omega), k_begin_ne (by omega)]
    · rw [if_neg h3]
theorem k_sbI_12 {I : xI} {nd m : Nat} {who ob : Int32} (hm : m ≤ 3) (em : I nd 12 = nI m) : ∃ m', m' ≤ 3 ∧ k_sbI I nd who ob m nd 12 = nI m' := by
  unfold k_sbI
  cases hs : k_srch (fun k => decide (I (nd + 7 + k) 0 = who ∧ I (nd + 7 + k) 1 = ob)) m 0 with
  | some k => exact ⟨m, hm, by dsimp only; rw [k_renew_ne (by omega)]; exact em⟩
  | none =>
    dsimp only
    by_cases h3 : m < 3
    · exact ⟨m + 1, by omega, by rw [if_pos h3, x_up_eq ⟨rfl, rfl⟩, k_begin_ne (by omega), em, nI_succ]⟩
    · exact ⟨m, hm, by rw [if_neg h3]; exact em⟩
theorem k_coI_ne {I : xI} {nd r m a j : Nat} {who : Int32} (hm : m ≤ 3) (h : a < nd ∨ nd + 10 ≤ a ∨ (a = nd ∧ j ≠ 12)) : k_coI I nd r who m a j = I a j := by
  unfold k_coI
  by_cases h1 : I r 2 = 1
  · rw [if_pos h1]
  rw [if_neg h1]
  by_cases h2 : I r 2 = 2
  · rw [if_pos h2, k_wrI_ne (by omega)]
  rw [if_neg h2]
  by_cases h3 : I r 2 = 3
  · rw [if_pos h3]
    by_cases h4 : I r 3 = 1
    · rw [if_pos h4, k_rel_ne (by omega)]
    · rw [if_neg h4]
  rw [if_neg h3]
  by_cases h4 : I r 2 = 4
  · rw [if_pos h4]
    by_cases h5 : k_within (I r 3) 0 1 = 0
    · rw [if_pos h5]
    · rw [if_neg h5, k_sbI_ne hm h]
  · rw [if_neg h4]
theorem k_coI_12 {I : xI} {nd r m : Nat} {who : Int32} (hm : m ≤ 3) (em : I nd 12 = nI m) : ∃ m', m' ≤ 3 ∧ k_coI I nd r who m nd 12 = nI m' := by
  unfold k_coI
  by_cases h1 : I r 2 = 1
  · exact ⟨m, hm, by rw [if_pos h1]; exact em⟩
  rw [if_neg h1]
  by_cases h2 : I r 2 = 2
  · exact ⟨m, hm, by rw [if_pos h2, k_wrI_ne (by omega)]; exact em⟩
  rw [if_neg h2]
  by_cases h3 : I r 2 = 3
  · rw [if_pos h3]
    by_cases h4 : I r 3 = 1
    · exact ⟨m, hm, by rw [if_pos h4, k_rel_ne (by omega)]; exact em⟩
    · exact ⟨m, hm, by rw [if_neg h4]; exact em⟩
  rw [if_neg h3]
  by_cases h4 : I r 2 = 4
  · rw [if_pos h4]
    by_cases h5 : k_within (I r 3) 0 1 = 0
    · exact ⟨m, hm, by rw [if_pos h5]; exact em⟩
    · rw [if_neg h5]
      exact k_sbI_12 hm em
  · exact ⟨m, hm, by rw [if_neg h4]; exact em⟩
theorem k_wa_ne {I : xI} {nd ra a j : Nat} (h : a ≠ 5) (h2 : a ≠ 4 ∨ j ≠ 1) : k_wa I nd ra a j = I a j := by
  exact (k_wd_ne h h2).trans (k_wh_ne h h2)
theorem k_wn_ne {I : xI} {nd ra a j : Nat} (h : a ≠ 7) (h2 : a ≠ 6 ∨ j ≠ 1) : k_wn I nd ra a j = I a j := by
  exact (k_wd_ne h h2).trans (k_wh_ne h h2)
theorem k_try_ne {I : xI} {r a j : Nat} (h : a ≠ r) : k_try I r a j = I a j := by
  unfold k_try
  by_cases h1 : x_up I r 7 (I r 7 + 1) r 7 < 3
  · rw [if_pos h1, x_up_ne (by omega)]
  · rw [if_neg h1, x_up_ne (by omega), x_up_ne (by omega)]
def k_co (I : xI) (tn ra : Nat) (who : Int32) (m : Nat) : xI := k_settle (k_coI I tn ra who m) ra (k_coV I tn ra who m) (k_coA I tn ra who m)
def k_tl6 (I : xI) (ra : Nat) (v : Int32) : xI := if v = 0 then k_try I ra else x_up I ra 6 (if I ra 9 = 0 then 2 else 1)
def k_tlI (I : xI) (nd ra : Nat) (v : Int32) : xI := if k_tl6 I ra v ra 6 = 0 then k_tl6 I ra v else x_up (k_tl6 I ra v) nd 11 (k_tl6 I ra v nd 11 - 1)
def k_tlP (I : xI) (P : xP) (nd ra : Nat) (v : Int32) : xP := if k_tl6 I ra v ra 6 = 0 then P else k_deq P (nd + 5) (k_tn (k_tl6 I ra v nd 11) - 1)
theorem k_tl6_ne {I : xI} {ra a j : Nat} {v : Int32} (h : a ≠ ra) : k_tl6 I ra v a j = I a j := by
  unfold k_tl6
  by_cases h1 : v = 0
  · rw [if_pos h1, k_try_ne h]
  · rw [if_neg h1, x_up_ne (by omega)]
abbrev k_sr2 (I : xI) (nd ra : Nat) : xI := k_arI (k_wa I nd ra) 4 5
theorem k_sr2_ne {I : xI} {nd ra a j : Nat} (h : a ≠ 5) (h2 : a ≠ 4 ∨ j ≠ 1) (h3 : a ≠ 1 ∨ j ≠ 11) : k_sr2 I nd ra a j = I a j := by
  show k_arI (k_wa I nd ra) 4 5 a j = I a j
  rw [k_arI_ne h h3, k_wa_ne h h2]
def k_sr3 (I : xI) (nd ra : Nat) : xI := if k_sr2 I nd ra ra 8 = 0 then k_co (k_sr2 I nd ra) (k_nd (k_sr2 I nd ra ra 1)) ra (k_sr2 I nd ra nd 0) (k_tn (k_sr2 I nd ra (k_nd (k_sr2 I nd ra ra 1)) 12)) else k_sr2 I nd ra
def k_srI (I : xI) (nd ra : Nat) : xI := if k_arV (k_wa I nd ra) 4 5 = 0 then k_tlI (k_sr2 I nd ra) nd ra 0 else k_tlI (k_arI (k_wn (k_sr3 I nd ra) nd ra) 6 7) nd ra (k_arV (k_wn (k_sr3 I nd ra) nd ra) 6 7)
def k_srP (I : xI) (P : xP) (nd ra : Nat) : xP := if k_arV (k_wa I nd ra) 4 5 = 0 then k_tlP (k_sr2 I nd ra) P nd ra 0 else k_tlP (k_arI (k_wn (k_sr3 I nd ra) nd ra) 6 7) P nd ra (k_arV (k_wn (k_sr3 I nd ra) nd ra) 6 7)
theorem k_sr3_ne {I : xI} {nd ra t m a j : Nat} (hm : m ≤ 3) (ht : t < 6) (et : I ra 1 = nI t) (em : I (8 + 10 * t) 12 = nI m) (hra : 101 ≤ ra) (h : (a < 8 ∧ a ≠ 5 ∧ (a ≠ 4 ∨ j ≠ 1) ∧ (a ≠ 1 ∨ j ≠ 11)) ∨ (∃ n, n < 6 ∧ a = 8 + 10 * n ∧ j ≠ 12)) : k_sr3 I nd ra a j = I a j := by
  have e1 : k_sr2 I nd ra ra 1 = nI t := by rw [k_sr2_ne (by omega) (by omega) (by omega)]; exact et
  have e2 : k_nd (k_sr2 I nd ra ra 1) = 8 + 10 * t := by rw [e1]; exact k_nd_nI (by omega)
  have e3 : k_tn (k_sr2 I nd ra (8 + 10 * t) 12) = m := by rw [k_sr2_ne (by omega) (by omega) (by omega), em]; exact k_tn_nI (by omega)
  have e4 : k_sr2 I nd ra a j = I a j := by
    rcases h with h | ⟨n, h1, h2, h3⟩
    · exact k_sr2_ne (by omega) (by omega) (by omega)
    · exact k_sr2_ne (by omega) (by omega) (by omega)
  unfold k_sr3
  by_cases h8 : k_sr2 I nd ra ra 8 = 0
  · rw [if_pos h8, e2, e3]
    unfold k_co
    rcases h with h | ⟨n, h1, h2, h3⟩
    · rw [k_settle_ne (by omega), k_coI_ne hm (by omega)]
      exact e4
    · rw [k_settle_ne (by omega), k_coI_ne hm (by omega)]
      exact e4
  · rw [if_neg h8]
    exact e4
section part90
variable {G : xG} {z : Nat} {I : Nat → Nat → Int32} {P : Nat → Nat → Option Nat} {post : Option Value → xH → Prop}
set_option maxRecDepth 100000 in
set_option maxHeartbeats 1000000 in
theorem l_B_sendRequest_58 (hb : x_bus z P) {h : Nat} (hh : h < 6) {ra : Nat} (hr : x_at 2 z ra) (hra : 101 ≤ ra) {v : Int32} {q : Nat} (hq4 : q < 4) (hqs : ∀ k, k ≤ q → ∃ r, P (8 + 10 * h + 5) k = some r ∧ x_at 2 z r) (eq : I (8 + 10 * h) 11 = nI (q + 1)) (hp : post none (z, k_tlI I (8 + 10 * h) ra v, k_tlP I P (8 + 10 * h) ra v)) : xp G M_B_sendRequest 58 [(0, .ref 1), (1, .ref (8 + 10 * h)), (2, .ref ra), (3, .int v)] [] (z, I, P) 0 0 post := by
  obtain ⟨⟨tB, tns, trs, tF, tFb, tG, tGb⟩, ⟨b0, b1, b2, b3, b4, b5⟩, hns, hnd⟩ := id hb
  obtain ⟨⟨tN, tO, tna, tfl, tL, tq, ts⟩, hs3, ⟨p1, p2, p3, p4, p5, p6⟩, hss⟩ := hnd h hh
  have e6 : k_tl6 I ra v (8 + 10 * h) 11 = nI (q + 1) := by rw [k_tl6_ne (by omega)]; exact eq
  have e7 : k_tn (k_tl6 I ra v (8 + 10 * h) 11) - 1 = q := by rw [e6, k_tn_nI (by omega)]; omega
  unfold k_tlI k_tlP at hp
  rw [e7] at hp
  unfold k_tl6 at hp e6
  refine xp_iload_n d_B_sendRequest_58 rfl ?_
  refine xp_if_eq (tgt := 81) d_B_sendRequest_59 (by decide) (fun c59 => ?_) (fun c59 => ?_)
  · skip
    refine xp_aload_n d_B_sendRequest_81 rfl ?_
    refine xq_V0v d_B_sendRequest_82 g_B_sendRequest_284 (by assumption) rfl rfl ?_
    refine c_R_countTry hr ?_
    refine ⟨rfl, ?_⟩
    refine xp_aload_n d_B_sendRequest_85 rfl ?_
    refine xq_getI d_B_sendRequest_86 fg_B_143 (by assumption) ?_
    refine xp_if_eq (tgt := 96) d_B_sendRequest_89 (by decide) (fun c89 => ?_) (fun c89 => ?_)
    · skip
      refine xp_return_ d_B_sendRequest_96 rfl ?_
      simp only [if_pos c59, if_pos c89] at hp
      exact hp
    · skip
      refine xp_aload_n d_B_sendRequest_92 rfl ?_
      refine xq_V0v d_B_sendRequest_93 g_B_sendRequest_287 (by assumption) rfl rfl ?_
      simp only [if_pos c59, if_neg c89] at e6
      refine c_N_dequeue (hnd h hh) e6 hq4 hqs ?_
      refine ⟨rfl, ?_⟩
      refine xp_return_ d_B_sendRequest_96 rfl ?_
      simp only [if_pos c59, if_neg c89] at hp
      exact hp
  · skip
    refine xp_aload_n d_B_sendRequest_62 rfl ?_
    refine xp_aload_n d_B_sendRequest_63 rfl ?_
    refine xq_getI d_B_sendRequest_64 fg_B_281 (by assumption) ?_
    refine xp_if_eq (tgt := 74) d_B_sendRequest_67 (by decide) (fun c67 => ?_) (fun c67 => ?_)
    · skip
      refine xp_iconst (v := 2) d_B_sendRequest_74 (by decide) ?_
      refine xq_putI d_B_sendRequest_75 f_B_143 (by assumption) ?_
      refine xp_goto (tgt := 85) d_B_sendRequest_78 (by decide) ?_
      refine xp_aload_n d_B_sendRequest_85 rfl ?_
      refine xq_getI d_B_sendRequest_86 fg_B_143 (by assumption) ?_
      refine xp_if_eq (tgt := 96) d_B_sendRequest_89 (by decide) (fun c89 => ?_) (fun c89 => ?_)
      · skip
        refine xp_return_ d_B_sendRequest_96 rfl ?_
        simp only [if_neg c59, if_pos c67, if_pos c89] at hp
        exact hp
      · skip
        refine xp_aload_n d_B_sendRequest_92 rfl ?_
        refine xq_V0v d_B_sendRequest_93 g_B_sendRequest_287 (by assumption) rfl rfl ?_
        simp only [if_neg c59, if_pos c67, if_neg c89] at e6
        refine c_N_dequeue (hnd h hh) e6 hq4 hqs ?_
        refine ⟨rfl, ?_⟩
        refine xp_return_ d_B_sendRequest_96 rfl ?_
        simp only [if_neg c59, if_pos c67, if_neg c89] at hp
        exact hp
    · skip
      refine xp_iconst (v := 1) d_B_sendRequest_70 (by decide) ?_
      refine xp_goto (tgt := 75) d_B_sendRequest_71 (by decide) ?_
      refine xq_putI d_B_sendRequest_75 f_B_143 (by assumption) ?_
      refine xp_goto (tgt := 85) d_B_sendRequest_78 (by decide) ?_
      refine xp_aload_n d_B_sendRequest_85 rfl ?_
      refine xq_getI d_B_sendRequest_86 fg_B_143 (by assumption) ?_
      refine xp_if_eq (tgt := 96) d_B_sendRequest_89 (by decide) (fun c89 => ?_) (fun c89 => ?_)
      · skip
        refine xp_return_ d_B_sendRequest_96 rfl ?_
        simp only [if_neg c59, if_neg c67, if_pos c89] at hp
        exact hp
      · skip
        refine xp_aload_n d_B_sendRequest_92 rfl ?_
        refine xq_V0v d_B_sendRequest_93 g_B_sendRequest_287 (by assumption) rfl rfl ?_
        simp only [if_neg c59, if_neg c67, if_neg c89] at e6
        refine c_N_dequeue (hnd h hh) e6 hq4 hqs ?_
        refine ⟨rfl, ?_⟩
        refine xp_return_ d_B_sendRequest_96 rfl ?_
        simp only [if_neg c59, if_neg c67, if_neg c89] at hp
        exact hp
set_option maxRecDepth 100000 in
set_option maxHeartbeats 1000000 in
theorem l_B_sendRequest_43 (hb : x_bus z P) {h : Nat} (hh : h < 6) {ra : Nat} (hr : x_at 2 z ra) (hra : 101 ≤ ra) {s1 : Nat} (hs1 : s1 < 18) (e1 : I 6 2 = nI s1) {q : Nat} (hq4 : q < 4) (hqs : ∀ k, k ≤ q → ∃ r, P (8 + 10 * h + 5) k = some r ∧ x_at 2 z r) (eq : I (8 + 10 * h) 11 = nI (q + 1)) (hp : post none (z, k_tlI (k_arI (k_wn I (8 + 10 * h) ra) 6 7) (8 + 10 * h) ra (k_arV (k_wn I (8 + 10 * h) ra) 6 7), k_tlP (k_arI (k_wn I (8 + 10 * h) ra) 6 7) P (8 + 10 * h) ra (k_arV (k_wn I (8 + 10 * h) ra) 6 7))) : xp G M_B_sendRequest 43 [(0, .ref 1), (1, .ref (8 + 10 * h)), (2, .ref ra)] [] (z, I, P) 0 0 post := by
  obtain ⟨⟨tB, tns, trs, tF, tFb, tG, tGb⟩, ⟨b0, b1, b2, b3, b4, b5⟩, hns, hnd⟩ := id hb
  obtain ⟨⟨tN, tO, tna, tfl, tL, tq, ts⟩, hs3, ⟨p1, p2, p3, p4, p5, p6⟩, hss⟩ := hnd h hh
  refine xp_aload_n d_B_sendRequest_43 rfl ?_
  refine xp_aload_n d_B_sendRequest_44 rfl ?_
  refine xp_aload_n d_B_sendRequest_45 rfl ?_
  refine xq_V2v d_B_sendRequest_46 g_B_sendRequest_278 (by assumption) rfl rfl ?_
  refine c_B_writeAnswer hb hh hr ?_
  refine ⟨rfl, ?_⟩
  refine xp_aload_n d_B_sendRequest_49 rfl ?_
  refine xp_aload_n d_B_sendRequest_50 rfl ?_
  refine xq_getR d_B_sendRequest_51 fg_B_28 (by assumption) (by assumption) ?_
  refine xq_V1r d_B_sendRequest_54 g_B_sendRequest_236 (by assumption) rfl rfl ?_
  refine c_B_arrives hb (Or.inr ⟨rfl, rfl⟩) hs1 (by rw [k_wn_ne (by omega) (by omega)]; exact e1) ?_
  refine ⟨_, rfl, ?_⟩
  refine xp_istore_n d_B_sendRequest_57 (by decide) ?_
  refine xp_loc (lv' := [(0, .ref 1), (1, .ref (8 + 10 * h)), (2, .ref ra), (3, .int (k_arV (k_wn I (8 + 10 * h) ra) 6 7))]) ⟨rfl, rfl, rfl, rfl, trivial⟩ ?_
  exact l_B_sendRequest_58 hb hh hr hra hq4 hqs (by rw [k_arI_ne (by omega) (by omega), k_wn_ne (by omega) (by omega)]; exact eq) hp
set_option maxRecDepth 100000 in
set_option maxHeartbeats 1000000 in
theorem c_B_sendRequest (hb : x_bus z P) {h : Nat} (hh : h < 6) {ra t m : Nat} (hr : x_at 2 z ra) (hra : 101 ≤ ra) {q : Nat} (hq4 : q < 4) (hqs : ∀ k, k ≤ q → ∃ r, P (8 + 10 * h + 5) k = some r ∧ x_at 2 z r) (eq : I (8 + 10 * h) 11 = nI (q + 1)) (ht : t < 6) (et : I ra 1 = nI t) (hm : m ≤ 3) (em : I (8 + 10 * t) 12 = nI m) {s0 s1 : Nat} (hs0 : s0 < 18) (hs1 : s1 < 18) (e0 : I 4 2 = nI s0) (e1 : I 6 2 = nI s1) (hp : post none (z, k_srI I (8 + 10 * h) ra, k_srP I P (8 + 10 * h) ra)) : xp G M_B_sendRequest 0 [(0, .ref 1), (1, .ref (8 + 10 * h)), (2, .ref ra)] [] (z, I, P) 0 0 post := by
  obtain ⟨⟨tB, tns, trs, tF, tFb, tG, tGb⟩, ⟨b0, b1, b2, b3, b4, b5⟩, hns, hnd⟩ := id hb
  obtain ⟨⟨tN, tO, tna, tfl, tL, tq, ts⟩, hs3, ⟨p1, p2, p3, p4, p5, p6⟩, hss⟩ := hnd h hh
  have e1t : k_sr2 I (8 + 10 * h) ra ra 1 = nI t := by rw [k_sr2_ne (by omega) (by omega) (by omega)]; exact et
  have ek : k_nd (k_sr2 I (8 + 10 * h) ra ra 1) = 8 + 10 * t := by rw [e1t]; exact k_nd_nI (by omega)
  have em2 : k_sr2 I (8 + 10 * h) ra (8 + 10 * t) 12 = nI m := by rw [k_sr2_ne (by omega) (by omega) (by omega)]; exact em
  have ekm : k_tn (k_sr2 I (8 + 10 * h) ra (8 + 10 * t) 12) = m := by rw [em2]; exact k_tn_nI (by omega)
  have s2 : k_sr2 I (8 + 10 * h) ra 6 2 = nI s1 := by rw [k_sr2_ne (by omega) (by omega) (by omega)]; exact e1
  have q2 : k_sr2 I (8 + 10 * h) ra (8 + 10 * h) 11 = nI (q + 1) := by rw [k_sr2_ne (by omega) (by omega) (by omega)]; exact eq
  unfold k_srI k_srP at hp
  refine xp_aload_n d_B_sendRequest_0 rfl ?_
  refine xp_aload_n d_B_sendRequest_1 rfl ?_
  refine xp_aload_n d_B_sendRequest_2 rfl ?_
  refine xq_V2v d_B_sendRequest_3 g_B_sendRequest_265 (by assumption) rfl rfl ?_
  refine c_B_writeAsk hb hh hr ?_
  refine ⟨rfl, ?_⟩
  refine xp_iconst (v := 0) d_B_sendRequest_6 (by decide) ?_
  refine xp_istore_n d_B_sendRequest_7 (by decide) ?_
  refine xp_aload_n d_B_sendRequest_8 rfl ?_
  refine xp_aload_n d_B_sendRequest_9 rfl ?_
  refine xq_getR d_B_sendRequest_10 fg_B_24 (by assumption) (by assumption) ?_
  refine xq_V1r d_B_sendRequest_13 g_B_sendRequest_236 (by assumption) rfl rfl ?_
  refine c_B_arrives hb (Or.inl ⟨rfl, rfl⟩) hs0 (by rw [k_wa_ne (by omega) (by omega)]; exact e0) ?_
  refine ⟨_, rfl, ?_⟩
  refine xp_if_eq (tgt := 58) d_B_sendRequest_16 (by decide) (fun c16 => ?_) (fun c16 => ?_)
  · skip
    refine xp_loc (lv' := [(0, .ref 1), (1, .ref (8 + 10 * h)), (2, .ref ra), (3, .int 0)]) ⟨rfl, rfl, rfl, rfl, trivial⟩ ?_
    simp only [if_pos c16] at hp
    exact l_B_sendRequest_58 hb hh hr hra hq4 hqs q2 hp
  · skip
    refine xp_aload_n d_B_sendRequest_19 rfl ?_
    refine xq_getI d_B_sendRequest_20 fg_B_268 (by assumption) ?_
    refine xp_if_ne (tgt := 43) d_B_sendRequest_23 (by decide) (fun c23 => ?_) (fun c23 => ?_)
    · skip
      refine xp_loc (lv' := [(0, .ref 1), (1, .ref (8 + 10 * h)), (2, .ref ra)]) ⟨rfl, rfl, rfl, trivial⟩ ?_
      simp only [if_neg c16] at hp
      first
        | (have c8 : ¬ k_sr2 I (8 + 10 * h) ra ra 8 = 0 := c23
           have e3 : k_sr3 I (8 + 10 * h) ra = k_sr2 I (8 + 10 * h) ra := if_neg c8
           rw [e3] at hp
           exact l_B_sendRequest_43 hb hh hr hra hs1 s2 hq4 hqs q2 hp)
        | (have c8 : k_sr2 I (8 + 10 * h) ra ra 8 = 0 := c23
           have e3 : k_sr3 I (8 + 10 * h) ra = k_co (k_sr2 I (8 + 10 * h) ra) (8 + 10 * t) ra (k_sr2 I (8 + 10 * h) ra (8 + 10 * h) 0) m := by unfold k_sr3; rw [if_pos c8, ek, ekm]
           have n1 := k_sr3_ne (nd := 8 + 10 * h) (a := 6) (j := 2) hm ht et em hra (Or.inl (by omega))
           have n2 := k_sr3_ne (nd := 8 + 10 * h) (a := 8 + 10 * h) (j := 11) hm ht et em hra (Or.inr ⟨h, hh, rfl, by omega⟩)
           rw [e3] at n1 n2 hp
           change xp G M_B_sendRequest _ _ _ (z, k_co (k_sr2 I (8 + 10 * h) ra) (8 + 10 * t) ra (k_sr2 I (8 + 10 * h) ra (8 + 10 * h) 0) m, P) _ _ _
           exact l_B_sendRequest_43 hb hh hr hra hs1 (n1.trans e1) hq4 hqs (n2.trans eq) hp)
    · skip
      refine xp_aload_n d_B_sendRequest_26 rfl ?_
      refine xq_getR d_B_sendRequest_27 fg_B_11 (by assumption) (by assumption) ?_
      refine xp_aload_n d_B_sendRequest_30 rfl ?_
      refine xq_getI d_B_sendRequest_31 fg_B_271 (by assumption) ?_
      refine xq_aaload d_B_sendRequest_34 (by assumption) (by decide) e1t (by omega) (by decide) (hns t ht) ?_
      refine xp_aload_n d_B_sendRequest_35 rfl ?_
      refine xp_aload_n d_B_sendRequest_36 rfl ?_
      refine xq_getI d_B_sendRequest_37 fg_B_214 (by assumption) ?_
      refine xq_V2v d_B_sendRequest_40 g_B_sendRequest_274 (hnd t ht).1.1 rfl rfl ?_
      refine c_N_carryOut (hnd t ht) hr em2 hm ?_
      refine ⟨rfl, ?_⟩
      refine xp_loc (lv' := [(0, .ref 1), (1, .ref (8 + 10 * h)), (2, .ref ra)]) ⟨rfl, rfl, rfl, trivial⟩ ?_
      simp only [if_neg c16] at hp
      first
        | (have c8 : ¬ k_sr2 I (8 + 10 * h) ra ra 8 = 0 := c23
           have e3 : k_sr3 I (8 + 10 * h) ra = k_sr2 I (8 + 10 * h) ra := if_neg c8
           rw [e3] at hp
           exact l_B_sendRequest_43 hb hh hr hra hs1 s2 hq4 hqs q2 hp)
        | (have c8 : k_sr2 I (8 + 10 * h) ra ra 8 = 0 := c23
           have e3 : k_sr3 I (8 + 10 * h) ra = k_co (k_sr2 I (8 + 10 * h) ra) (8 + 10 * t) ra (k_sr2 I (8 + 10 * h) ra (8 + 10 * h) 0) m := by unfold k_sr3; rw [if_pos c8, ek, ekm]
           have n1 := k_sr3_ne (nd := 8 + 10 * h) (a := 6) (j := 2) hm ht et em hra (Or.inl (by omega))
           have n2 := k_sr3_ne (nd := 8 + 10 * h) (a := 8 + 10 * h) (j := 11) hm ht et em hra (Or.inr ⟨h, hh, rfl, by omega⟩)
           rw [e3] at n1 n2 hp
           change xp G M_B_sendRequest _ _ _ (z, k_co (k_sr2 I (8 + 10 * h) ra) (8 + 10 * t) ra (k_sr2 I (8 + 10 * h) ra (8 + 10 * h) 0) m, P) _ _ _
           exact l_B_sendRequest_43 hb hh hr hra hs1 (n1.trans e1) hq4 hqs (n2.trans eq) hp)
end part90
