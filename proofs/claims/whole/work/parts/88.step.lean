/-! what the frame's and the loop's writes leave alone -/
theorem k_wh_ne {I : xI} {fa ba a j : Nat} {ty to fr n : Int32} (h : a ≠ ba) (h2 : a ≠ fa ∨ j ≠ 1) : k_wh I fa ba ty to fr n a j = I a j := by
  unfold k_wh k_h7
  repeat rw [x_up_ne (by omega)]
theorem k_wd_ne {I : xI} {fa ba a j : Nat} {sv id ob le nu : Int32} (h : a ≠ ba) (h2 : a ≠ fa ∨ j ≠ 1) : k_wd I fa ba sv id ob le nu a j = I a j := by
  unfold k_wd k_d8
  repeat rw [x_up_ne (by omega)]
theorem k_spoil_ne {I : xI} {fa ba s a j : Nat} (h : a ≠ ba) : k_spoil I fa ba s a j = I a j := by
  unfold k_spoil
  by_cases h1 : I fa 3 = 0
  · rw [if_pos h1]
  · rw [if_neg h1]
    by_cases h2 : I fa 1 ≤ I fa 2
    · rw [if_pos h2]
    · rw [if_neg h2, x_up_ne (by omega)]
theorem k_arI_ne {I : xI} {fa ba a j : Nat} (h : a ≠ ba) (h2 : a ≠ 1 ∨ j ≠ 11) : k_arI I fa ba a j = I a j := by
  unfold k_arI
  rw [k_spoil_ne h, x_up_ne (by omega)]
theorem k_fill_ne {I : xI} {na fl a j : Nat} {l v : Int32} (h1 : a ≠ na) (h2 : a ≠ fl) : k_fill I na fl l v a j = I a j := by
  unfold k_fill
  by_cases h : k_within l 1 16 = 0
  · rw [if_pos h]
  · rw [if_neg h, x_up_ne (by omega), x_up_ne (by omega)]
theorem k_run_ne {I : xI} {nd a j : Nat} (h1 : a ≠ nd + 2) (h2 : a ≠ nd + 3) (h3 : a ≠ nd + 4) : k_run I nd a j = I a j := by
  unfold k_run
  by_cases h : k_off I (nd + 4) = 0
  · rw [if_pos h, k_fill_ne h1 h2]
    unfold k_sum
    rw [x_up_ne (by omega)]
  · rw [if_neg h]
theorem k_fd_ne {I : xI} {nd a j : Nat} : ∀ k, (a < nd + 7 ∨ nd + 7 + k ≤ a) → k_fd I nd k a j = I a j
  | 0, _ => rfl
  | k + 1, h => by
    show x_up (k_fd I nd k) (nd + 7 + k) 3 _ a j = _
    rw [x_up_ne (by omega), k_fd_ne k (by omega)]
def k_tn (x : Int32) : Nat := x.toNatClampNeg
theorem k_tn_nI {j : Nat} (h : j < 1000) : k_tn (nI j) = j := nI_clamp (by omega)
def k_lp (I : xI) : Nat → Nat → Int32
  | 0, _ => -1
  | n + 1, k => if I (8 + 10 * k) 5 = 0 then k_lp I n (k + 1) else nI k
theorem k_lp_ix (I : xI) : ∀ n k : Nat, k_lp I n k = -1 ∨ ∃ j, k ≤ j ∧ j < n + k ∧ k_lp I n k = nI j
  | 0, _ => Or.inl rfl
  | n + 1, k => by
    unfold k_lp
    by_cases h : I (8 + 10 * k) 5 = 0
    · rw [if_pos h]
      rcases k_lp_ix I n (k + 1) with h1 | ⟨j, h1, h2, h3⟩
      · exact Or.inl h1
      · exact Or.inr ⟨j, by omega, by omega, h3⟩
    · rw [if_neg h]
      exact Or.inr ⟨k, by omega, by omega, rfl⟩
abbrev k_si (I : xI) : xI := x_up I 1 9 (I 1 9 + 1)
def k_ws (I : xI) : xI := if k_lp (k_si I) 6 0 = -1 then k_si I else if 4 + 2 * k_lp (k_si I) 6 0 ≤ k_si I 1 9 then x_up (x_up (k_fo (x_up (k_si I) 1 5 (k_lp (k_si I) 6 0)) (k_nd (k_lp (k_si I) 6 0))) 1 6 3) 1 9 0 else k_si I
def k_es1 (I : xI) (nd : Nat) : xI := if I nd 5 = 0 then I else k_fd (k_run I nd) nd (k_tn (k_run I nd nd 12))
def k_es (I : xI) : Nat → xI
  | 0 => I
  | k + 1 => k_es1 (k_es I k) (8 + 10 * k)
def k_end (I : xI) : xI := k_es (k_fs (x_up I 1 12 (I 1 12 + I 1 11))) 6
abbrev k_aj1 (I : xI) (nd : Nat) (p : Int32) : xI := k_wh (x_up I nd 7 p) 4 5 1 p (x_up I nd 7 p nd 0) 0
abbrev k_aj2 (I : xI) (nd : Nat) (p : Int32) : xI := k_arI (k_aj1 I nd p) 4 5
abbrev k_aj3 (I : xI) (nd : Nat) (p : Int32) : xI := k_wh (k_aj2 I nd p) 6 7 2 (k_aj2 I nd p nd 0) p 0
abbrev k_aj4 (I : xI) (nd : Nat) (p : Int32) : xI := k_arI (k_aj3 I nd p) 6 7
def k_aj (I : xI) (nd : Nat) (p : Int32) : xI := if k_arV (k_aj1 I nd p) 4 5 = 0 then k_aj2 I nd p else if k_arV (k_aj3 I nd p) 6 7 = 0 then k_aj4 I nd p else x_up (x_up (k_aj4 I nd p) nd 6 p) nd 7 (x_up (k_aj4 I nd p) nd 6 p nd 0)
def k_se (I : xI) (nd : Nat) : xI := if k_behind (I nd 7) = I nd 0 then k_eu I else if k_aj I nd (k_behind (I nd 7)) nd 6 = k_behind (I nd 7) then k_ep (k_aj I nd (k_behind (I nd 7))) else k_aj I nd (k_behind (I nd 7))
abbrev k_pp (I : xI) (nd : Nat) : Int32 := if k_behind (x_up I nd 8 0 nd 7) = x_up I nd 8 0 nd 6 then k_behind (x_up I nd 8 0 nd 0) else k_behind (x_up I nd 8 0 nd 7)
def k_poI (I : xI) (nd : Nat) : xI := if k_pp I nd = x_up I nd 8 0 nd 6 then k_ep (x_up I nd 8 0) else if k_aj (x_up I nd 8 0) nd (k_pp I nd) nd 6 = k_aj (x_up I nd 8 0) nd (k_pp I nd) nd 0 then k_eu (k_aj (x_up I nd 8 0) nd (k_pp I nd)) else k_ep (k_aj (x_up I nd 8 0) nd (k_pp I nd))
def k_poV (I : xI) (nd : Nat) : Int32 := if k_pp I nd = x_up I nd 8 0 nd 6 then 1 else 0
abbrev k_ps1 (I : xI) (nd : Nat) : xI := k_wh I 4 5 0 (I nd 6) (I nd 0) 0
abbrev k_ps2 (I : xI) (nd : Nat) : xI := k_arI (k_ps1 I nd) 4 5
abbrev k_ps3 (I : xI) (nd : Nat) : xI := x_up (k_ps2 I nd) 1 8 (k_ps2 I nd 1 8 + 1)
abbrev k_ps4 (I : xI) (nd : Nat) : xI := x_up (x_up (k_ps3 I nd) 1 6 3) nd 7 (x_up (k_ps3 I nd) 1 6 3 nd 6)
abbrev k_ps5 (I : xI) (nd : Nat) : xI := x_up (k_ps2 I nd) 1 5 (k_ps2 I nd nd 6)
def k_ps (I : xI) (nd : Nat) : xI := if k_arV (k_ps1 I nd) 4 5 = 0 then (if k_ps3 I nd 1 8 < 2 then k_ps3 I nd else x_up (k_ps4 I nd) nd 6 (k_ps4 I nd nd 0)) else k_eu (k_gt (k_ps5 I nd) (k_nd (k_ps5 I nd nd 6)))
abbrev k_sn1 (I : xI) (nd sa : Nat) : xI := k_renew I sa (k_ov I nd (I sa 1))
abbrev k_sn2 (I : xI) (nd sa : Nat) : xI := k_wh (k_sn1 I nd sa) 4 5 6 (k_sn1 I nd sa sa 0) (k_sn1 I nd sa nd 0) 8
abbrev k_sn3 (I : xI) (nd sa : Nat) : xI := k_wd (k_sn2 I nd sa) 4 5 5 0 (k_sn2 I nd sa sa 1) 0 (k_ov I nd (I sa 1))
abbrev k_sn4 (I : xI) (nd sa : Nat) : xI := k_arI (k_sn3 I nd sa) 4 5
def k_sn (I : xI) (nd sa : Nat) : xI := if k_arV (k_sn3 I nd sa) 4 5 = 0 then k_sn4 I nd sa else k_note (k_sn4 I nd sa) (k_nd (k_sn4 I nd sa sa 0)) (k_sn4 I nd sa nd 0) (k_sn4 I nd sa sa 1) (k_ov I nd (I sa 1))
abbrev k_wa1 (I : xI) (nd ra : Nat) : xI := k_wh I 4 5 5 (I ra 1) (I nd 0) 8
def k_wa (I : xI) (nd ra : Nat) : xI := k_wd (k_wa1 I nd ra) 4 5 (k_wa1 I nd ra ra 2) (k_wa1 I nd ra ra 0) (k_wa1 I nd ra ra 3) (k_wa1 I nd ra ra 4) (k_wa1 I nd ra ra 5)
abbrev k_wn1 (I : xI) (nd ra : Nat) : xI := k_wh I 6 7 6 (I nd 0) (I ra 1) 8
def k_wn (I : xI) (nd ra : Nat) : xI := k_wd (k_wn1 I nd ra) 6 7 (I ra 2 + (if I ra 9 = 0 then 64 else 128)) (k_wn1 I nd ra ra 0) (k_wn1 I nd ra ra 3) (k_wn1 I nd ra ra 4) (k_wn1 I nd ra ra 10)
section part88
variable {G : xG} {z : Nat} {I : Nat → Nat → Int32} {P : Nat → Nat → Option Nat} {post : Option Value → xH → Prop}
set_option maxRecDepth 100000 in
set_option maxHeartbeats 4000000 in
theorem l_B_leastPowered_2 (hb : x_bus z P) : ∀ n k : Nat, n + k = 6 → (post (some (.int (k_lp I n k))) (z, I, P)) → xp G M_B_leastPowered 2 [(0, .ref 1), (1, .int (nI k))] [] (z, I, P) 0 0 post := by
  obtain ⟨⟨tB, tns, trs, tF, tFb, tG, tGb⟩, ⟨b0, b1, b2, b3, b4, b5⟩, hns, hnd⟩ := id hb
  intro n
  induction n with
  | zero =>
    intro k hk hp
    refine xp_iload_n d_B_leastPowered_2 rfl ?_
    refine xp_bipush (v := 6) d_B_leastPowered_3 (by decide) ?_
    refine xp_icmp_ge (tgt := 28) d_B_leastPowered_5 (by decide) (fun c5 => ?_) (fun c5 => absurd (show (6 : Int32) ≤ nI k by rw [show k = 6 by omega]; decide) c5)
    refine xp_iconst (v := -1) d_B_leastPowered_28 (by decide) ?_
    refine xp_ireturn d_B_leastPowered_29 rfl rfl ?_
    exact hp
  | succ n ih =>
    intro k hk hp
    unfold k_lp at hp
    have tN := (hnd k (by omega)).1.1
    refine xp_iload_n d_B_leastPowered_2 rfl ?_
    refine xp_bipush (v := 6) d_B_leastPowered_3 (by decide) ?_
    refine xp_icmp_ge (tgt := 28) d_B_leastPowered_5 (by decide) (fun c5 => absurd c5 (fun q => by have := (nI_leI (a := 6) (b := k) (by decide) (by omega)).mp q; omega)) (fun c5 => ?_)
    refine xp_aload_n d_B_leastPowered_8 rfl ?_
    refine xq_getR d_B_leastPowered_9 fg_B_11 (by assumption) (by assumption) ?_
    refine xp_iload_n d_B_leastPowered_12 rfl ?_
    refine xq_aaload d_B_leastPowered_13 (by assumption) (by decide) rfl (by omega) (by decide) (hns k (by omega)) ?_
    refine xq_getI d_B_leastPowered_14 fg_B_42 (by assumption) ?_
    refine xp_if_eq (tgt := 22) d_B_leastPowered_17 (by decide) (fun c17 => ?_) (fun c17 => ?_)
    · skip
      refine xp_inc1 d_B_leastPowered_22 rfl (by decide) ?_
      refine xp_goto (tgt := 2) d_B_leastPowered_25 (by decide) ?_
      refine xp_loc (lv' := [(0, .ref 1), (1, .int (nI (k + 1)))]) ⟨rfl, rfl, trivial⟩ ?_
      rw [if_pos c17] at hp
      exact ih (k + 1) (by omega) hp
    · skip
      refine xp_iload_n d_B_leastPowered_20 rfl ?_
      refine xp_ireturn d_B_leastPowered_21 rfl rfl ?_
      rw [if_neg c17] at hp
      exact hp
set_option maxRecDepth 100000 in
set_option maxHeartbeats 4000000 in
theorem c_B_leastPowered (hb : x_bus z P)  (hp : post (some (.int (k_lp I 6 0))) (z, I, P)) : xp G M_B_leastPowered 0 [(0, .ref 1)] [] (z, I, P) 0 0 post := by
  obtain ⟨⟨tB, tns, trs, tF, tFb, tG, tGb⟩, ⟨b0, b1, b2, b3, b4, b5⟩, hns, hnd⟩ := id hb
  refine xp_iconst (v := 0) d_B_leastPowered_0 (by decide) ?_
  refine xp_istore_n d_B_leastPowered_1 (by decide) ?_
  refine xp_loc (lv' := [(0, .ref 1), (1, .int (nI 0))]) ⟨rfl, rfl, trivial⟩ ?_
  exact l_B_leastPowered_2 hb 6 0 rfl hp
set_option maxRecDepth 100000 in
set_option maxHeartbeats 4000000 in
theorem c_B_waitInSilence (hb : x_bus z P)  (hp : post none (z, k_ws I, P)) : xp G M_B_waitInSilence 0 [(0, .ref 1)] [] (z, I, P) 0 0 post := by
  obtain ⟨⟨tB, tns, trs, tF, tFb, tG, tGb⟩, ⟨b0, b1, b2, b3, b4, b5⟩, hns, hnd⟩ := id hb
  unfold k_ws at hp
  refine xp_aload_n d_B_waitInSilence_0 rfl ?_
  refine xp_dup d_B_waitInSilence_1 rfl ?_
  refine xq_getI d_B_waitInSilence_2 fg_B_161 (by assumption) ?_
  refine xp_iconst (v := 1) d_B_waitInSilence_5 (by decide) ?_
  refine xp_iadd d_B_waitInSilence_6 ?_
  refine xq_putI d_B_waitInSilence_7 f_B_161 (by assumption) ?_
  refine xp_aload_n d_B_waitInSilence_10 rfl ?_
  refine xq_V0r d_B_waitInSilence_11 g_B_waitInSilence_183 (by assumption) rfl rfl ?_
  refine c_B_leastPowered hb ?_
  refine ⟨_, rfl, ?_⟩
  refine xp_istore_n d_B_waitInSilence_14 (by decide) ?_
  refine xp_iload_n d_B_waitInSilence_15 rfl ?_
  refine xp_iconst (v := -1) d_B_waitInSilence_16 (by decide) ?_
  refine xp_icmp_eq (tgt := 32) d_B_waitInSilence_17 (by decide) (fun c17 => ?_) (fun c17 => ?_)
  · skip
    refine xp_return_ d_B_waitInSilence_32 rfl ?_
    simp only [if_pos c17] at hp
    exact hp
  · skip
    refine xp_aload_n d_B_waitInSilence_20 rfl ?_
    refine xq_getI d_B_waitInSilence_21 fg_B_161 (by assumption) ?_
    refine xp_iconst (v := 4) d_B_waitInSilence_24 (by decide) ?_
    refine xp_iconst (v := 2) d_B_waitInSilence_25 (by decide) ?_
    refine xp_iload_n d_B_waitInSilence_26 rfl ?_
    refine xp_imul d_B_waitInSilence_27 ?_
    refine xp_iadd d_B_waitInSilence_28 ?_
    refine xp_icmp_ge (tgt := 33) d_B_waitInSilence_29 (by decide) (fun c29 => ?_) (fun c29 => ?_)
    · skip
      obtain ⟨j, -, hj, hj2⟩ := (k_lp_ix (k_si I) 6 0).resolve_left c17
      have hk : k_nd (k_lp (k_si I) 6 0) = 8 + 10 * j := by rw [hj2]; exact k_nd_nI (by omega)
      have tN := (hnd j (by omega)).1.1
      refine xp_aload_n d_B_waitInSilence_33 rfl ?_
      refine xp_iload_n d_B_waitInSilence_34 rfl ?_
      refine xq_putI d_B_waitInSilence_35 f_B_31 (by assumption) ?_
      refine xp_aload_n d_B_waitInSilence_38 rfl ?_
      refine xq_getR d_B_waitInSilence_39 fg_B_11 (by assumption) (by assumption) ?_
      refine xp_iload_n d_B_waitInSilence_42 rfl ?_
      refine xq_aaload d_B_waitInSilence_43 (by assumption) (by decide) hj2 (by omega) (by decide) (hns j (by omega)) ?_
      refine xq_V0v d_B_waitInSilence_44 g_B_waitInSilence_187 (by assumption) rfl rfl ?_
      refine c_N_forgetOthers (hnd j (by omega)) ?_
      refine ⟨rfl, ?_⟩
      refine xp_aload_n d_B_waitInSilence_47 rfl ?_
      refine xp_iconst (v := 3) d_B_waitInSilence_48 (by decide) ?_
      refine xq_putI d_B_waitInSilence_49 f_B_98 (by assumption) ?_
      refine xp_aload_n d_B_waitInSilence_52 rfl ?_
      refine xp_iconst (v := 0) d_B_waitInSilence_53 (by decide) ?_
      refine xq_putI d_B_waitInSilence_54 f_B_161 (by assumption) ?_
      refine xp_return_ d_B_waitInSilence_57 rfl ?_
      simp only [if_neg c17, if_pos c29, hk] at hp
      exact hp
    · skip
      refine xp_return_ d_B_waitInSilence_32 rfl ?_
      simp only [if_neg c17, if_neg c29] at hp
      exact hp
set_option maxRecDepth 100000 in
set_option maxHeartbeats 4000000 in
theorem c_B_askToJoin (hb : x_bus z P) {h : Nat} (hh : h < 6) {p : Int32} {s0 s1 : Nat} (hs0 : s0 < 18) (hs1 : s1 < 18) (e0 : I 4 2 = nI s0) (e1 : I 6 2 = nI s1) (hp : post none (z, k_aj I (8 + 10 * h) p, P)) : xp G M_B_askToJoin 0 [(0, .ref 1), (1, .ref (8 + 10 * h)), (2, .int p)] [] (z, I, P) 0 0 post := by
  obtain ⟨⟨tB, tns, trs, tF, tFb, tG, tGb⟩, ⟨b0, b1, b2, b3, b4, b5⟩, hns, hnd⟩ := id hb
  obtain ⟨⟨tN, tO, tna, tfl, tL, tq, ts⟩, hs3, ⟨p1, p2, p3, p4, p5, p6⟩, hss⟩ := hnd h hh
  unfold k_aj at hp
  refine xp_aload_n d_B_askToJoin_0 rfl ?_
  refine xp_iload_n d_B_askToJoin_1 rfl ?_
  refine xq_putI d_B_askToJoin_2 f_B_220 (by assumption) ?_
  refine xp_aload_n d_B_askToJoin_5 rfl ?_
  refine xq_getR d_B_askToJoin_6 fg_B_24 (by assumption) (by assumption) ?_
  refine xp_iconst (v := 1) d_B_askToJoin_9 (by decide) ?_
  refine xp_iload_n d_B_askToJoin_10 rfl ?_
  refine xp_aload_n d_B_askToJoin_11 rfl ?_
  refine xq_getI d_B_askToJoin_12 fg_B_214 (by assumption) ?_
  refine xp_iconst (v := 0) d_B_askToJoin_15 (by decide) ?_
  refine xq_V4v d_B_askToJoin_16 g_B_askToJoin_233 (by assumption) rfl rfl ?_
  refine c_F_writeHeader tF tFb b4 ?_
  refine ⟨rfl, ?_⟩
  refine xp_aload_n d_B_askToJoin_19 rfl ?_
  refine xp_aload_n d_B_askToJoin_20 rfl ?_
  refine xq_getR d_B_askToJoin_21 fg_B_24 (by assumption) (by assumption) ?_
  refine xq_V1r d_B_askToJoin_24 g_B_askToJoin_236 (by assumption) rfl rfl ?_
  refine c_B_arrives hb (Or.inl ⟨rfl, rfl⟩) hs0 (by rw [k_wh_ne (by omega) (by omega), x_up_ne (by omega)]; exact e0) ?_
  refine ⟨_, rfl, ?_⟩
  refine xp_if_ne (tgt := 31) d_B_askToJoin_27 (by decide) (fun c27 => ?_) (fun c27 => ?_)
  · skip
    refine xp_aload_n d_B_askToJoin_31 rfl ?_
    refine xq_getR d_B_askToJoin_32 fg_B_28 (by assumption) (by assumption) ?_
    refine xp_iconst (v := 2) d_B_askToJoin_35 (by decide) ?_
    refine xp_aload_n d_B_askToJoin_36 rfl ?_
    refine xq_getI d_B_askToJoin_37 fg_B_214 (by assumption) ?_
    refine xp_iload_n d_B_askToJoin_40 rfl ?_
    refine xp_iconst (v := 0) d_B_askToJoin_41 (by decide) ?_
    refine xq_V4v d_B_askToJoin_42 g_B_askToJoin_233 (by assumption) rfl rfl ?_
    refine c_F_writeHeader tG tGb b5 ?_
    refine ⟨rfl, ?_⟩
    refine xp_aload_n d_B_askToJoin_45 rfl ?_
    refine xp_aload_n d_B_askToJoin_46 rfl ?_
    refine xq_getR d_B_askToJoin_47 fg_B_28 (by assumption) (by assumption) ?_
    refine xq_V1r d_B_askToJoin_50 g_B_askToJoin_236 (by assumption) rfl rfl ?_
    refine c_B_arrives hb (Or.inr ⟨rfl, rfl⟩) hs1 (show k_aj3 I (8 + 10 * h) p 6 2 = _ by unfold k_aj3 k_aj2 k_aj1; rw [k_wh_ne (by omega) (by omega), k_arI_ne (by omega) (by omega), k_wh_ne (by omega) (by omega), x_up_ne (by omega)]; exact e1) ?_
    refine ⟨_, rfl, ?_⟩
    refine xp_if_eq (tgt := 69) d_B_askToJoin_53 (by decide) (fun c53 => ?_) (fun c53 => ?_)
    · skip
      refine xp_return_ d_B_askToJoin_69 rfl ?_
      simp only [if_neg c27, if_pos c53] at hp
      exact hp
    · skip
      refine xp_aload_n d_B_askToJoin_56 rfl ?_
      refine xp_iload_n d_B_askToJoin_57 rfl ?_
      refine xq_putI d_B_askToJoin_58 f_B_211 (by assumption) ?_
      refine xp_aload_n d_B_askToJoin_61 rfl ?_
      refine xp_aload_n d_B_askToJoin_62 rfl ?_
      refine xq_getI d_B_askToJoin_63 fg_B_214 (by assumption) ?_
      refine xq_putI d_B_askToJoin_66 f_B_220 (by assumption) ?_
      refine xp_return_ d_B_askToJoin_69 rfl ?_
      simp only [if_neg c27, if_neg c53] at hp
      exact hp
  · skip
    refine xp_return_ d_B_askToJoin_30 rfl ?_
    simp only [if_pos c27] at hp
    exact hp
set_option maxRecDepth 100000 in
set_option maxHeartbeats 4000000 in
theorem c_B_search (hb : x_bus z P) {h : Nat} (hh : h < 6) {s0 s1 : Nat} (hs0 : s0 < 18) (hs1 : s1 < 18) (e0 : I 4 2 = nI s0) (e1 : I 6 2 = nI s1) (hp : post none (z, k_se I (8 + 10 * h), P)) : xp G M_B_search 0 [(0, .ref 1), (1, .ref (8 + 10 * h))] [] (z, I, P) 0 0 post := by
  obtain ⟨⟨tB, tns, trs, tF, tFb, tG, tGb⟩, ⟨b0, b1, b2, b3, b4, b5⟩, hns, hnd⟩ := id hb
  obtain ⟨⟨tN, tO, tna, tfl, tL, tq, ts⟩, hs3, ⟨p1, p2, p3, p4, p5, p6⟩, hss⟩ := hnd h hh
  unfold k_se at hp
  refine xp_aload_n d_B_search_0 rfl ?_
  refine xq_getI d_B_search_1 fg_B_220 (by assumption) ?_
  refine xq_S1r d_B_search_4 g_B_search_223 rfl rfl ?_
  refine c_B_behind ?_
  refine ⟨_, rfl, ?_⟩
  refine xp_istore_n d_B_search_7 (by decide) ?_
  refine xp_iload_n d_B_search_8 rfl ?_
  refine xp_aload_n d_B_search_9 rfl ?_
  refine xq_getI d_B_search_10 fg_B_214 (by assumption) ?_
  refine xp_icmp_ne (tgt := 21) d_B_search_13 (by decide) (fun c13 => ?_) (fun c13 => ?_)
  · skip
    refine xp_aload_n d_B_search_21 rfl ?_
    refine xp_aload_n d_B_search_22 rfl ?_
    refine xp_iload_n d_B_search_23 rfl ?_
    refine xq_V2v d_B_search_24 g_B_search_226 (by assumption) rfl rfl ?_
    refine c_B_askToJoin hb hh hs0 hs1 e0 e1 ?_
    refine ⟨rfl, ?_⟩
    refine xp_aload_n d_B_search_27 rfl ?_
    refine xq_getI d_B_search_28 fg_B_211 (by assumption) ?_
    refine xp_iload_n d_B_search_31 rfl ?_
    refine xp_icmp_ne (tgt := 39) d_B_search_32 (by decide) (fun c32 => ?_) (fun c32 => ?_)
    · skip
      refine xp_return_ d_B_search_39 rfl ?_
      simp only [if_neg c13, if_neg c32] at hp
      exact hp
    · skip
      refine xp_aload_n d_B_search_35 rfl ?_
      refine xq_V0v d_B_search_36 g_B_search_217 (by assumption) rfl rfl ?_
      refine c_B_enterPass hb ?_
      refine ⟨rfl, ?_⟩
      refine xp_return_ d_B_search_39 rfl ?_
      simp only [if_neg c13, if_pos c32] at hp
      exact hp
  · skip
    refine xp_aload_n d_B_search_16 rfl ?_
    refine xq_V0v d_B_search_17 g_B_search_230 (by assumption) rfl rfl ?_
    refine c_B_enterUse hb ?_
    refine ⟨rfl, ?_⟩
    refine xp_return_ d_B_search_20 rfl ?_
    simp only [if_pos c13] at hp
    exact hp
set_option maxRecDepth 100000 in
set_option maxHeartbeats 4000000 in
theorem c_B_poll (hb : x_bus z P) {h : Nat} (hh : h < 6) {s0 s1 : Nat} (hs0 : s0 < 18) (hs1 : s1 < 18) (e0 : I 4 2 = nI s0) (e1 : I 6 2 = nI s1) (hp : post (some (.int (k_poV I (8 + 10 * h)))) (z, k_poI I (8 + 10 * h), P)) : xp G M_B_poll 0 [(0, .ref 1), (1, .ref (8 + 10 * h))] [] (z, I, P) 0 0 post := by
  obtain ⟨⟨tB, tns, trs, tF, tFb, tG, tGb⟩, ⟨b0, b1, b2, b3, b4, b5⟩, hns, hnd⟩ := id hb
  obtain ⟨⟨tN, tO, tna, tfl, tL, tq, ts⟩, hs3, ⟨p1, p2, p3, p4, p5, p6⟩, hss⟩ := hnd h hh
  unfold k_poV k_poI k_pp at hp
  refine xp_aload_n d_B_poll_0 rfl ?_
  refine xp_iconst (v := 0) d_B_poll_1 (by decide) ?_
  refine xq_putI d_B_poll_2 f_B_208 (by assumption) ?_
  refine xp_aload_n d_B_poll_5 rfl ?_
  refine xq_getI d_B_poll_6 fg_B_220 (by assumption) ?_
  refine xq_S1r d_B_poll_9 g_B_poll_223 rfl rfl ?_
  refine c_B_behind ?_
  refine ⟨_, rfl, ?_⟩
  refine xp_istore_n d_B_poll_12 (by decide) ?_
  refine xp_iload_n d_B_poll_13 rfl ?_
  refine xp_aload_n d_B_poll_14 rfl ?_
  refine xq_getI d_B_poll_15 fg_B_211 (by assumption) ?_
  refine xp_icmp_ne (tgt := 29) d_B_poll_18 (by decide) (fun c18 => ?_) (fun c18 => ?_)
  · skip
    refine xp_iload_n d_B_poll_29 rfl ?_
    refine xp_aload_n d_B_poll_30 rfl ?_
    refine xq_getI d_B_poll_31 fg_B_211 (by assumption) ?_
    refine xp_icmp_ne (tgt := 43) d_B_poll_34 (by decide) (fun c34 => ?_) (fun c34 => ?_)
    · skip
      refine xp_aload_n d_B_poll_43 rfl ?_
      refine xp_aload_n d_B_poll_44 rfl ?_
      refine xp_iload_n d_B_poll_45 rfl ?_
      refine xq_V2v d_B_poll_46 g_B_poll_226 (by assumption) rfl rfl ?_
      refine c_B_askToJoin hb hh hs0 hs1 (by rw [x_up_ne (by omega)]; exact e0) (by rw [x_up_ne (by omega)]; exact e1) ?_
      refine ⟨rfl, ?_⟩
      refine xp_aload_n d_B_poll_49 rfl ?_
      refine xq_getI d_B_poll_50 fg_B_211 (by assumption) ?_
      refine xp_aload_n d_B_poll_53 rfl ?_
      refine xq_getI d_B_poll_54 fg_B_214 (by assumption) ?_
      refine xp_icmp_ne (tgt := 67) d_B_poll_57 (by decide) (fun c57 => ?_) (fun c57 => ?_)
      · skip
        refine xp_aload_n d_B_poll_67 rfl ?_
        refine xq_V0v d_B_poll_68 g_B_poll_217 (by assumption) rfl rfl ?_
        refine c_B_enterPass hb ?_
        refine ⟨rfl, ?_⟩
        refine xp_iconst (v := 0) d_B_poll_71 (by decide) ?_
        refine xp_ireturn d_B_poll_72 rfl (x_bit (by first | exact Or.inl rfl | exact Or.inr rfl | assumption)).1 ?_
        simp only [if_neg c18, if_neg c34, if_neg c57] at hp
        exact hp
      · skip
        refine xp_aload_n d_B_poll_60 rfl ?_
        refine xq_V0v d_B_poll_61 g_B_poll_230 (by assumption) rfl rfl ?_
        refine c_B_enterUse hb ?_
        refine ⟨rfl, ?_⟩
        refine xp_goto (tgt := 71) d_B_poll_64 (by decide) ?_
        refine xp_iconst (v := 0) d_B_poll_71 (by decide) ?_
        refine xp_ireturn d_B_poll_72 rfl (x_bit (by first | exact Or.inl rfl | exact Or.inr rfl | assumption)).1 ?_
        simp only [if_neg c18, if_neg c34, if_pos c57] at hp
        exact hp
    · skip
      refine xp_aload_n d_B_poll_37 rfl ?_
      refine xq_V0v d_B_poll_38 g_B_poll_217 (by assumption) rfl rfl ?_
      refine c_B_enterPass hb ?_
      refine ⟨rfl, ?_⟩
      refine xp_iconst (v := 1) d_B_poll_41 (by decide) ?_
      refine xp_ireturn d_B_poll_42 rfl (x_bit (by first | exact Or.inl rfl | exact Or.inr rfl | assumption)).1 ?_
      first | exact absurd c34 c18 | (simp only [if_neg c18, if_pos c34] at hp; exact hp)
  · skip
    refine xp_aload_n d_B_poll_21 rfl ?_
    refine xq_getI d_B_poll_22 fg_B_214 (by assumption) ?_
    refine xq_S1r d_B_poll_25 g_B_poll_223 rfl rfl ?_
    refine c_B_behind ?_
    refine ⟨_, rfl, ?_⟩
    refine xp_istore_n d_B_poll_28 (by decide) ?_
    refine xp_iload_n d_B_poll_29 rfl ?_
    refine xp_aload_n d_B_poll_30 rfl ?_
    refine xq_getI d_B_poll_31 fg_B_211 (by assumption) ?_
    refine xp_icmp_ne (tgt := 43) d_B_poll_34 (by decide) (fun c34 => ?_) (fun c34 => ?_)
    · skip
      refine xp_aload_n d_B_poll_43 rfl ?_
      refine xp_aload_n d_B_poll_44 rfl ?_
      refine xp_iload_n d_B_poll_45 rfl ?_
      refine xq_V2v d_B_poll_46 g_B_poll_226 (by assumption) rfl rfl ?_
      refine c_B_askToJoin hb hh hs0 hs1 (by rw [x_up_ne (by omega)]; exact e0) (by rw [x_up_ne (by omega)]; exact e1) ?_
      refine ⟨rfl, ?_⟩
      refine xp_aload_n d_B_poll_49 rfl ?_
      refine xq_getI d_B_poll_50 fg_B_211 (by assumption) ?_
      refine xp_aload_n d_B_poll_53 rfl ?_
      refine xq_getI d_B_poll_54 fg_B_214 (by assumption) ?_
      refine xp_icmp_ne (tgt := 67) d_B_poll_57 (by decide) (fun c57 => ?_) (fun c57 => ?_)
      · skip
        refine xp_aload_n d_B_poll_67 rfl ?_
        refine xq_V0v d_B_poll_68 g_B_poll_217 (by assumption) rfl rfl ?_
        refine c_B_enterPass hb ?_
        refine ⟨rfl, ?_⟩
        refine xp_iconst (v := 0) d_B_poll_71 (by decide) ?_
        refine xp_ireturn d_B_poll_72 rfl (x_bit (by first | exact Or.inl rfl | exact Or.inr rfl | assumption)).1 ?_
        simp only [if_pos c18, if_neg c34, if_neg c57] at hp
        exact hp
      · skip
        refine xp_aload_n d_B_poll_60 rfl ?_
        refine xq_V0v d_B_poll_61 g_B_poll_230 (by assumption) rfl rfl ?_
        refine c_B_enterUse hb ?_
        refine ⟨rfl, ?_⟩
        refine xp_goto (tgt := 71) d_B_poll_64 (by decide) ?_
        refine xp_iconst (v := 0) d_B_poll_71 (by decide) ?_
        refine xp_ireturn d_B_poll_72 rfl (x_bit (by first | exact Or.inl rfl | exact Or.inr rfl | assumption)).1 ?_
        simp only [if_pos c18, if_neg c34, if_pos c57] at hp
        exact hp
    · skip
      refine xp_aload_n d_B_poll_37 rfl ?_
      refine xq_V0v d_B_poll_38 g_B_poll_217 (by assumption) rfl rfl ?_
      refine c_B_enterPass hb ?_
      refine ⟨rfl, ?_⟩
      refine xp_iconst (v := 1) d_B_poll_41 (by decide) ?_
      refine xp_ireturn d_B_poll_42 rfl (x_bit (by first | exact Or.inl rfl | exact Or.inr rfl | assumption)).1 ?_
      first | exact absurd c34 c18 | (simp only [if_pos c18, if_pos c34] at hp; exact hp)
set_option maxRecDepth 100000 in
set_option maxHeartbeats 4000000 in
theorem c_B_pass (hb : x_bus z P) {h : Nat} (hh : h < 6) {nx : Nat} (hnx : nx < 6) (enx : I (8 + 10 * h) 6 = nI nx) {s0 s1 : Nat} (hs0 : s0 < 18) (hs1 : s1 < 18) (e0 : I 4 2 = nI s0) (e1 : I 6 2 = nI s1) (hp : post none (z, k_ps I (8 + 10 * h), P)) : xp G M_B_pass 0 [(0, .ref 1), (1, .ref (8 + 10 * h))] [] (z, I, P) 0 0 post := by
  obtain ⟨⟨tB, tns, trs, tF, tFb, tG, tGb⟩, ⟨b0, b1, b2, b3, b4, b5⟩, hns, hnd⟩ := id hb
  obtain ⟨⟨tN, tO, tna, tfl, tL, tq, ts⟩, hs3, ⟨p1, p2, p3, p4, p5, p6⟩, hss⟩ := hnd h hh
  unfold k_ps at hp
  refine xp_aload_n d_B_pass_0 rfl ?_
  refine xq_getR d_B_pass_1 fg_B_24 (by assumption) (by assumption) ?_
  refine xp_iconst (v := 0) d_B_pass_4 (by decide) ?_
  refine xp_aload_n d_B_pass_5 rfl ?_
  refine xq_getI d_B_pass_6 fg_B_211 (by assumption) ?_
  refine xp_aload_n d_B_pass_9 rfl ?_
  refine xq_getI d_B_pass_10 fg_B_214 (by assumption) ?_
  refine xp_iconst (v := 0) d_B_pass_13 (by decide) ?_
  refine xq_V4v d_B_pass_14 g_B_pass_233 (by assumption) rfl rfl ?_
  refine c_F_writeHeader tF tFb b4 ?_
  refine ⟨rfl, ?_⟩
  refine xp_aload_n d_B_pass_17 rfl ?_
  refine xp_aload_n d_B_pass_18 rfl ?_
  refine xq_getR d_B_pass_19 fg_B_24 (by assumption) (by assumption) ?_
  refine xq_V1r d_B_pass_22 g_B_pass_236 (by assumption) rfl rfl ?_
  refine c_B_arrives hb (Or.inl ⟨rfl, rfl⟩) hs0 (by rw [k_wh_ne (by omega) (by omega)]; exact e0) ?_
  refine ⟨_, rfl, ?_⟩
  refine xp_if_eq (tgt := 53) d_B_pass_25 (by decide) (fun c25 => ?_) (fun c25 => ?_)
  · skip
    refine xp_aload_n d_B_pass_53 rfl ?_
    refine xp_dup d_B_pass_54 rfl ?_
    refine xq_getI d_B_pass_55 fg_B_243 (by assumption) ?_
    refine xp_iconst (v := 1) d_B_pass_58 (by decide) ?_
    refine xp_iadd d_B_pass_59 ?_
    refine xq_putI d_B_pass_60 f_B_243 (by assumption) ?_
    refine xp_aload_n d_B_pass_63 rfl ?_
    refine xq_getI d_B_pass_64 fg_B_243 (by assumption) ?_
    refine xp_iconst (v := 2) d_B_pass_67 (by decide) ?_
    refine xp_icmp_lt (tgt := 92) d_B_pass_68 (by decide) (fun c68 => ?_) (fun c68 => ?_)
    · skip
      refine xp_return_ d_B_pass_92 rfl ?_
      simp only [if_pos c25, if_pos c68] at hp
      exact hp
    · skip
      refine xp_aload_n d_B_pass_71 rfl ?_
      refine xp_iconst (v := 3) d_B_pass_72 (by decide) ?_
      refine xq_putI d_B_pass_73 f_B_98 (by assumption) ?_
      refine xp_aload_n d_B_pass_76 rfl ?_
      refine xp_aload_n d_B_pass_77 rfl ?_
      refine xq_getI d_B_pass_78 fg_B_211 (by assumption) ?_
      refine xq_putI d_B_pass_81 f_B_220 (by assumption) ?_
      refine xp_aload_n d_B_pass_84 rfl ?_
      refine xp_aload_n d_B_pass_85 rfl ?_
      refine xq_getI d_B_pass_86 fg_B_214 (by assumption) ?_
      refine xq_putI d_B_pass_89 f_B_211 (by assumption) ?_
      refine xp_return_ d_B_pass_92 rfl ?_
      simp only [if_pos c25, if_neg c68] at hp
      exact hp
  · skip
    have e5 : k_ps5 I (8 + 10 * h) (8 + 10 * h) 6 = nI nx := by unfold k_ps5 k_ps2 k_ps1; rw [x_up_ne (by omega), k_arI_ne (by omega) (by omega), k_wh_ne (by omega) (by omega)]; exact enx
    have hk : k_nd (k_ps5 I (8 + 10 * h) (8 + 10 * h) 6) = 8 + 10 * nx := by rw [e5]; exact k_nd_nI (by omega)
    have tX := (hnd nx hnx).1.1
    refine xp_aload_n d_B_pass_28 rfl ?_
    refine xp_aload_n d_B_pass_29 rfl ?_
    refine xq_getI d_B_pass_30 fg_B_211 (by assumption) ?_
    refine xq_putI d_B_pass_33 f_B_31 (by assumption) ?_
    refine xp_aload_n d_B_pass_36 rfl ?_
    refine xq_getR d_B_pass_37 fg_B_11 (by assumption) (by assumption) ?_
    refine xp_aload_n d_B_pass_40 rfl ?_
    refine xq_getI d_B_pass_41 fg_B_211 (by assumption) ?_
    refine xq_aaload d_B_pass_44 (by assumption) (by decide) e5 (by omega) (by decide) (hns nx hnx) ?_
    refine xq_V0v d_B_pass_45 g_B_pass_240 (by assumption) rfl rfl ?_
    refine c_N_getToken (hnd nx hnx) ?_
    refine ⟨rfl, ?_⟩
    refine xp_aload_n d_B_pass_48 rfl ?_
    refine xq_V0v d_B_pass_49 g_B_pass_230 (by assumption) rfl rfl ?_
    refine c_B_enterUse hb ?_
    refine ⟨rfl, ?_⟩
    refine xp_return_ d_B_pass_52 rfl ?_
    simp only [if_neg c25, hk] at hp
    exact hp
set_option maxRecDepth 100000 in
set_option maxHeartbeats 4000000 in
theorem c_B_sendNotice (hb : x_bus z P) {h : Nat} (hh : h < 6) {k sb : Nat} (hk : k < 3) (hsb : sb < 6) (esb : I (8 + 10 * h + 7 + k) 0 = nI sb) {s0 s1 : Nat} (hs0 : s0 < 18) (hs1 : s1 < 18) (e0 : I 4 2 = nI s0) (e1 : I 6 2 = nI s1) (hp : post none (z, k_sn I (8 + 10 * h) (8 + 10 * h + 7 + k), P)) : xp G M_B_sendNotice 0 [(0, .ref 1), (1, .ref (8 + 10 * h)), (2, .ref (8 + 10 * h + 7 + k))] [] (z, I, P) 0 0 post := by
  obtain ⟨⟨tB, tns, trs, tF, tFb, tG, tGb⟩, ⟨b0, b1, b2, b3, b4, b5⟩, hns, hnd⟩ := id hb
  obtain ⟨⟨tN, tO, tna, tfl, tL, tq, ts⟩, hs3, ⟨p1, p2, p3, p4, p5, p6⟩, hss⟩ := hnd h hh
  have tS := hs3 k hk
  unfold k_sn at hp
  refine xp_aload_n d_B_sendNotice_0 rfl ?_
  refine xp_aload_n d_B_sendNotice_1 rfl ?_
  refine xq_getI d_B_sendNotice_2 fg_B_246 (by assumption) ?_
  refine xq_V1r d_B_sendNotice_5 g_B_sendNotice_125 (by assumption) rfl rfl ?_
  refine c_N_objectValue (hnd h hh) ?_
  refine ⟨_, rfl, ?_⟩
  refine xp_istore_n d_B_sendNotice_8 (by decide) ?_
  refine xp_aload_n d_B_sendNotice_9 rfl ?_
  refine xp_iload_n d_B_sendNotice_10 rfl ?_
  refine xq_V1v d_B_sendNotice_11 g_B_sendNotice_251 (by assumption) rfl rfl ?_
  refine c_S_renew (hs3 k hk) ?_
  refine ⟨rfl, ?_⟩
  refine xp_aload_n d_B_sendNotice_14 rfl ?_
  refine xq_getR d_B_sendNotice_15 fg_B_24 (by assumption) (by assumption) ?_
  refine xp_bipush (v := 6) d_B_sendNotice_18 (by decide) ?_
  refine xp_aload_n d_B_sendNotice_20 rfl ?_
  refine xq_getI d_B_sendNotice_21 fg_B_254 (by assumption) ?_
  refine xp_aload_n d_B_sendNotice_24 rfl ?_
  refine xq_getI d_B_sendNotice_25 fg_B_214 (by assumption) ?_
  refine xp_bipush (v := 8) d_B_sendNotice_28 (by decide) ?_
  refine xq_V4v d_B_sendNotice_30 g_B_sendNotice_233 (by assumption) rfl rfl ?_
  refine c_F_writeHeader tF tFb b4 ?_
  refine ⟨rfl, ?_⟩
  refine xp_aload_n d_B_sendNotice_33 rfl ?_
  refine xq_getR d_B_sendNotice_34 fg_B_24 (by assumption) (by assumption) ?_
  refine xp_iconst (v := 5) d_B_sendNotice_37 (by decide) ?_
  refine xp_iconst (v := 0) d_B_sendNotice_38 (by decide) ?_
  refine xp_aload_n d_B_sendNotice_39 rfl ?_
  refine xq_getI d_B_sendNotice_40 fg_B_246 (by assumption) ?_
  refine xp_iconst (v := 0) d_B_sendNotice_43 (by decide) ?_
  refine xp_iload_n d_B_sendNotice_44 rfl ?_
  refine xq_V5v d_B_sendNotice_45 g_B_sendNotice_257 (by assumption) rfl rfl ?_
  refine c_F_writeData tF tFb b4 ?_
  refine ⟨rfl, ?_⟩
  refine xp_aload_n d_B_sendNotice_48 rfl ?_
  refine xp_aload_n d_B_sendNotice_49 rfl ?_
  refine xq_getR d_B_sendNotice_50 fg_B_24 (by assumption) (by assumption) ?_
  refine xq_V1r d_B_sendNotice_53 g_B_sendNotice_236 (by assumption) rfl rfl ?_
  refine c_B_arrives hb (Or.inl ⟨rfl, rfl⟩) hs0 (by rw [k_wd_ne (by omega) (by omega), k_wh_ne (by omega) (by omega)]; unfold k_renew; rw [x_up_ne (by omega), x_up_ne (by omega)]; exact e0) ?_
  refine ⟨_, rfl, ?_⟩
  refine xp_if_eq (tgt := 80) d_B_sendNotice_56 (by decide) (fun c56 => ?_) (fun c56 => ?_)
  · skip
    refine xp_return_ d_B_sendNotice_80 rfl ?_
    simp only [if_pos c56] at hp
    exact hp
  · skip
    have e5 : k_sn4 I (8 + 10 * h) (8 + 10 * h + 7 + k) (8 + 10 * h + 7 + k) 0 = nI sb := by unfold k_sn4 k_sn3 k_sn2 k_sn1 k_renew; rw [k_arI_ne (by omega) (by omega), k_wd_ne (by omega) (by omega), k_wh_ne (by omega) (by omega), x_up_ne (by omega), x_up_ne (by omega)]; exact esb
    have hk5 : k_nd (k_sn4 I (8 + 10 * h) (8 + 10 * h + 7 + k) (8 + 10 * h + 7 + k) 0) = 8 + 10 * sb := by rw [e5]; exact k_nd_nI (by omega)
    have tX := (hnd sb hsb).1.1
    simp only [hk5] at hp
    refine xp_aload_n d_B_sendNotice_59 rfl ?_
    refine xq_getR d_B_sendNotice_60 fg_B_11 (by assumption) (by assumption) ?_
    refine xp_aload_n d_B_sendNotice_63 rfl ?_
    refine xq_getI d_B_sendNotice_64 fg_B_254 (by assumption) ?_
    refine xq_aaload d_B_sendNotice_67 (by assumption) (by decide) e5 (by omega) (by decide) (hns sb hsb) ?_
    refine xp_aload_n d_B_sendNotice_68 rfl ?_
    refine xq_getI d_B_sendNotice_69 fg_B_214 (by assumption) ?_
    refine xp_aload_n d_B_sendNotice_72 rfl ?_
    refine xq_getI d_B_sendNotice_73 fg_B_246 (by assumption) ?_
    refine xp_iload_n d_B_sendNotice_76 rfl ?_
    refine xq_V3v d_B_sendNotice_77 g_B_sendNotice_261 (by assumption) rfl rfl ?_
    refine c_N_note (hnd sb hsb) ?_
    refine ⟨rfl, ?_⟩
    refine xp_return_ d_B_sendNotice_80 rfl ?_
    simp only [if_neg c56] at hp
    exact hp
set_option maxRecDepth 100000 in
set_option maxHeartbeats 4000000 in
theorem c_B_writeAsk (hb : x_bus z P) {h : Nat} (hh : h < 6) {ra : Nat} (hr : x_at 2 z ra) (hp : post none (z, k_wa I (8 + 10 * h) ra, P)) : xp G M_B_writeAsk 0 [(0, .ref 1), (1, .ref (8 + 10 * h)), (2, .ref ra)] [] (z, I, P) 0 0 post := by
  obtain ⟨⟨tB, tns, trs, tF, tFb, tG, tGb⟩, ⟨b0, b1, b2, b3, b4, b5⟩, hns, hnd⟩ := id hb
  obtain ⟨⟨tN, tO, tna, tfl, tL, tq, ts⟩, hs3, ⟨p1, p2, p3, p4, p5, p6⟩, hss⟩ := hnd h hh
  refine xp_aload_n d_B_writeAsk_0 rfl ?_
  refine xq_getR d_B_writeAsk_1 fg_B_24 (by assumption) (by assumption) ?_
  refine xp_iconst (v := 5) d_B_writeAsk_4 (by decide) ?_
  refine xp_aload_n d_B_writeAsk_5 rfl ?_
  refine xq_getI d_B_writeAsk_6 fg_B_271 (by assumption) ?_
  refine xp_aload_n d_B_writeAsk_9 rfl ?_
  refine xq_getI d_B_writeAsk_10 fg_B_214 (by assumption) ?_
  refine xp_bipush (v := 8) d_B_writeAsk_13 (by decide) ?_
  refine xq_V4v d_B_writeAsk_15 g_B_writeAsk_233 (by assumption) rfl rfl ?_
  refine c_F_writeHeader tF tFb b4 ?_
  refine ⟨rfl, ?_⟩
  refine xp_aload_n d_B_writeAsk_18 rfl ?_
  refine xq_getR d_B_writeAsk_19 fg_B_24 (by assumption) (by assumption) ?_
  refine xp_aload_n d_B_writeAsk_22 rfl ?_
  refine xq_getI d_B_writeAsk_23 fg_B_290 (by assumption) ?_
  refine xp_aload_n d_B_writeAsk_26 rfl ?_
  refine xq_getI d_B_writeAsk_27 fg_B_293 (by assumption) ?_
  refine xp_aload_n d_B_writeAsk_30 rfl ?_
  refine xq_getI d_B_writeAsk_31 fg_B_296 (by assumption) ?_
  refine xp_aload_n d_B_writeAsk_34 rfl ?_
  refine xq_getI d_B_writeAsk_35 fg_B_297 (by assumption) ?_
  refine xp_aload_n d_B_writeAsk_38 rfl ?_
  refine xq_getI d_B_writeAsk_39 fg_B_300 (by assumption) ?_
  refine xq_V5v d_B_writeAsk_42 g_B_writeAsk_257 (by assumption) rfl rfl ?_
  refine c_F_writeData tF tFb b4 ?_
  refine ⟨rfl, ?_⟩
  refine xp_return_ d_B_writeAsk_45 rfl ?_
  exact hp
set_option maxRecDepth 100000 in
set_option maxHeartbeats 4000000 in
theorem c_B_writeAnswer (hb : x_bus z P) {h : Nat} (hh : h < 6) {ra : Nat} (hr : x_at 2 z ra) (hp : post none (z, k_wn I (8 + 10 * h) ra, P)) : xp G M_B_writeAnswer 0 [(0, .ref 1), (1, .ref (8 + 10 * h)), (2, .ref ra)] [] (z, I, P) 0 0 post := by
  obtain ⟨⟨tB, tns, trs, tF, tFb, tG, tGb⟩, ⟨b0, b1, b2, b3, b4, b5⟩, hns, hnd⟩ := id hb
  obtain ⟨⟨tN, tO, tna, tfl, tL, tq, ts⟩, hs3, ⟨p1, p2, p3, p4, p5, p6⟩, hss⟩ := hnd h hh
  unfold k_wn at hp
  refine xp_aload_n d_B_writeAnswer_0 rfl ?_
  refine xq_getI d_B_writeAnswer_1 fg_B_290 (by assumption) ?_
  refine xp_aload_n d_B_writeAnswer_4 rfl ?_
  refine xq_getI d_B_writeAnswer_5 fg_B_281 (by assumption) ?_
  refine xp_if_eq (tgt := 17) d_B_writeAnswer_8 (by decide) (fun c8 => ?_) (fun c8 => ?_)
  · skip
    refine xp_bipush (v := 64) d_B_writeAnswer_17 (by decide) ?_
    refine xp_iadd d_B_writeAnswer_19 ?_
    refine xp_istore_n d_B_writeAnswer_20 (by decide) ?_
    refine xp_aload_n d_B_writeAnswer_21 rfl ?_
    refine xq_getR d_B_writeAnswer_22 fg_B_28 (by assumption) (by assumption) ?_
    refine xp_bipush (v := 6) d_B_writeAnswer_25 (by decide) ?_
    refine xp_aload_n d_B_writeAnswer_27 rfl ?_
    refine xq_getI d_B_writeAnswer_28 fg_B_214 (by assumption) ?_
    refine xp_aload_n d_B_writeAnswer_31 rfl ?_
    refine xq_getI d_B_writeAnswer_32 fg_B_271 (by assumption) ?_
    refine xp_bipush (v := 8) d_B_writeAnswer_35 (by decide) ?_
    refine xq_V4v d_B_writeAnswer_37 g_B_writeAnswer_233 (by assumption) rfl rfl ?_
    refine c_F_writeHeader tG tGb b5 ?_
    refine ⟨rfl, ?_⟩
    refine xp_aload_n d_B_writeAnswer_40 rfl ?_
    refine xq_getR d_B_writeAnswer_41 fg_B_28 (by assumption) (by assumption) ?_
    refine xp_iload_n d_B_writeAnswer_44 rfl ?_
    refine xp_aload_n d_B_writeAnswer_45 rfl ?_
    refine xq_getI d_B_writeAnswer_46 fg_B_293 (by assumption) ?_
    refine xp_aload_n d_B_writeAnswer_49 rfl ?_
    refine xq_getI d_B_writeAnswer_50 fg_B_296 (by assumption) ?_
    refine xp_aload_n d_B_writeAnswer_53 rfl ?_
    refine xq_getI d_B_writeAnswer_54 fg_B_297 (by assumption) ?_
    refine xp_aload_n d_B_writeAnswer_57 rfl ?_
    refine xq_getI d_B_writeAnswer_58 fg_B_146 (by assumption) ?_
    refine xq_V5v d_B_writeAnswer_61 g_B_writeAnswer_257 (by assumption) rfl rfl ?_
    refine c_F_writeData tG tGb b5 ?_
    refine ⟨rfl, ?_⟩
    refine xp_return_ d_B_writeAnswer_64 rfl ?_
    simp only [if_pos c8] at hp
    exact hp
  · skip
    refine xp_sipush (v := 128) d_B_writeAnswer_11 (by decide) ?_
    refine xp_goto (tgt := 19) d_B_writeAnswer_14 (by decide) ?_
    refine xp_iadd d_B_writeAnswer_19 ?_
    refine xp_istore_n d_B_writeAnswer_20 (by decide) ?_
    refine xp_aload_n d_B_writeAnswer_21 rfl ?_
    refine xq_getR d_B_writeAnswer_22 fg_B_28 (by assumption) (by assumption) ?_
    refine xp_bipush (v := 6) d_B_writeAnswer_25 (by decide) ?_
    refine xp_aload_n d_B_writeAnswer_27 rfl ?_
    refine xq_getI d_B_writeAnswer_28 fg_B_214 (by assumption) ?_
    refine xp_aload_n d_B_writeAnswer_31 rfl ?_
    refine xq_getI d_B_writeAnswer_32 fg_B_271 (by assumption) ?_
    refine xp_bipush (v := 8) d_B_writeAnswer_35 (by decide) ?_
    refine xq_V4v d_B_writeAnswer_37 g_B_writeAnswer_233 (by assumption) rfl rfl ?_
    refine c_F_writeHeader tG tGb b5 ?_
    refine ⟨rfl, ?_⟩
    refine xp_aload_n d_B_writeAnswer_40 rfl ?_
    refine xq_getR d_B_writeAnswer_41 fg_B_28 (by assumption) (by assumption) ?_
    refine xp_iload_n d_B_writeAnswer_44 rfl ?_
    refine xp_aload_n d_B_writeAnswer_45 rfl ?_
    refine xq_getI d_B_writeAnswer_46 fg_B_293 (by assumption) ?_
    refine xp_aload_n d_B_writeAnswer_49 rfl ?_
    refine xq_getI d_B_writeAnswer_50 fg_B_296 (by assumption) ?_
    refine xp_aload_n d_B_writeAnswer_53 rfl ?_
    refine xq_getI d_B_writeAnswer_54 fg_B_297 (by assumption) ?_
    refine xp_aload_n d_B_writeAnswer_57 rfl ?_
    refine xq_getI d_B_writeAnswer_58 fg_B_146 (by assumption) ?_
    refine xq_V5v d_B_writeAnswer_61 g_B_writeAnswer_257 (by assumption) rfl rfl ?_
    refine c_F_writeData tG tGb b5 ?_
    refine ⟨rfl, ?_⟩
    refine xp_return_ d_B_writeAnswer_64 rfl ?_
    simp only [if_neg c8] at hp
    exact hp
end part88
