/-- the bus's cells and pointers -/
def x_bus (z : Nat) (P : xP) : Prop := (x_at 0 z 1 ∧ x_ar 102 6 z 2 ∧ x_ar 103 60 z 3 ∧ x_at 1 z 4 ∧ x_ar 100 18 z 5 ∧ x_at 1 z 6 ∧ x_ar 100 18 z 7) ∧ (P 1 0 = some 2 ∧ P 1 1 = some 3 ∧ P 1 2 = some 4 ∧ P 1 3 = some 6 ∧ P 4 0 = some 5 ∧ P 6 0 = some 7) ∧ (∀ n, n < 6 → P 2 n = some (8 + 10 * n)) ∧ ∀ n, n < 6 → x_node z P (8 + 10 * n)
def k_nd (n : Int32) : Nat := 8 + 10 * n.toNatClampNeg
theorem k_nd_nI {j : Nat} (h : j ≤ 5) : k_nd (nI j) = 8 + 10 * j := by
  unfold k_nd
  rw [nI_clamp (by omega)]
theorem k_node_ix {n : Int32} (h : ¬ k_within n 0 5 = 0) : ∃ j : Nat, j ≤ 5 ∧ n = nI j := by
  obtain ⟨j, -, h2, h3⟩ := k_within_nI (A := 0) (B := 5) (by decide) (by decide) h
  exact ⟨j, h2, h3⟩
def k_eu (I : xI) : xI := x_up (x_up I 1 6 0) 1 7 0
def k_ep (I : xI) : xI := x_up (x_up I 1 6 2) 1 8 0
def k_fs (I : xI) : xI := x_up (x_up I 4 3 0) 6 3 0
def k_bs (I : xI) : xI := x_up (x_up (x_up (x_up I 1 10 (I 1 10 + 1)) 1 11 0) 4 1 0) 6 1 0
def k_lose (I : xI) (n : Int32) : xI := if I 1 5 = n then x_up (x_up I 1 5 (-1)) 1 9 0 else I
def k_isR (I : xI) (r : Int32) : Int32 := if r < 0 then 0 else if I 1 4 ≤ r then 0 else 1
def k_pwV (I : xI) (n on : Int32) : Int32 := if k_within n 0 5 = 0 then 0 else if I (k_nd n) 5 = on then 0 else 1
def k_pwI (I : xI) (n on : Int32) : xI := if k_within n 0 5 = 0 then I else if I (k_nd n) 5 = on then I else if on = 0 then k_lose (x_up I (k_nd n) 5 0) n else k_gp I (k_nd n)
def k_snV (n v : Int32) : Int32 := if k_within n 0 5 = 0 then 0 else if k_within v (-10000) 10000 = 0 then 0 else 1
def k_snI (I : xI) (n v : Int32) : xI := if k_within n 0 5 = 0 then I else if k_within v (-10000) 10000 = 0 then I else x_up I (k_nd n) 10 v
def k_gaV (n p i : Int32) : Int32 := if k_within n 0 5 = 0 then 0 else if k_within p 0 100 = 0 then 0 else if k_within i 0 100 = 0 then 0 else 1
def k_gaI (I : xI) (n p i : Int32) : xI := if k_within n 0 5 = 0 then I else if k_within p 0 100 = 0 then I else if k_within i 0 100 = 0 then I else k_tune I (k_nd n + 4) p i
def k_soV (w a m : Int32) : Int32 := if k_within w 0 1 = 0 then 0 else if k_within a 0 17 = 0 then 0 else if k_within m 1 255 = 0 then 0 else 1
def k_soI (I : xI) (w a m : Int32) : xI := if k_within w 0 1 = 0 then I else if k_within a 0 17 = 0 then I else if k_within m 1 255 = 0 then I else if w = 0 then x_up (x_up (k_fs I) 4 2 a) 4 3 m else x_up (x_up (k_fs I) 6 2 a) 6 3 m
def k_ph (I : xI) : Int32 := if I 1 5 = -1 then -1 else I 1 6
def k_noV (I : xI) (n w : Int32) : Int32 := if k_within n 0 5 = 0 then -1 else k_fact I (k_nd n) w
def k_vaV (I : xI) (n ob : Int32) : Int32 := if k_within n 0 5 = 0 then 0 else k_ov I (k_nd n) ob
def k_leV (I : xI) (n l : Int32) : Int32 := if k_within n 0 5 = 0 then 0 else k_num (I (k_nd n + 2)) (I (k_nd n + 3)) l
def k_seV (I : xI) (n l : Int32) : Int32 := if k_within n 0 5 = 0 then 0 else if k_isF (I (k_nd n + 3)) l = 0 then 0 else 1
def k_stV (I : xI) (r : Int32) : Int32 := if k_isR I r = 0 then -1 else I (101 + r.toNatClampNeg) 6
def k_anV (I : xI) (r : Int32) : Int32 := if k_isR I r = 0 then 0 else if I (101 + r.toNatClampNeg) 6 = 1 then I (101 + r.toNatClampNeg) 10 else 0
def k_ntV (I : xI) (n w : Int32) : Int32 := if k_within n 0 5 = 0 then -1 else k_nf I (k_nd n) w
def k_frV (I : xI) (w i : Int32) : Int32 := if k_within w 0 1 = 0 then -1 else if w = 0 then k_bos (I 5) (I 4 1) i else k_bos (I 7) (I 6 1) i
def k_toV (I : xI) (w : Int32) : Int32 := if w = 0 then I 1 10 else if w = 1 then I 1 12 else if w = 2 then I 1 4 else if w = 3 then I 1 9 else -1
/-- a frame is sent: counted, spoilt, looked at -/
def k_arI (I : xI) (fa ba : Nat) : xI := k_spoil (x_up I 1 11 (I 1 11 + 1)) fa ba (x_up I 1 11 (I 1 11 + 1) fa 2).toNatClampNeg
def k_arV (I : xI) (fa ba : Nat) : Int32 := if k_right (k_arI I fa ba ba) (k_arI I fa ba fa 1) = 0 then 0 else if k_within (k_arI I fa ba ba 3) 0 5 = 0 then 0 else if k_arI I fa ba (k_nd (k_arI I fa ba ba 3)) 5 = 0 then 0 else 1
theorem k_arV_01 (I : xI) (fa ba : Nat) : k_arV I fa ba = 0 ∨ k_arV I fa ba = 1 := by
  unfold k_arV
  by_cases h1 : k_right (k_arI I fa ba ba) (k_arI I fa ba fa 1) = 0
  · exact Or.inl (if_pos h1)
  · rw [if_neg h1]
    by_cases h2 : k_within (k_arI I fa ba ba 3) 0 5 = 0
    · exact Or.inl (if_pos h2)
    · rw [if_neg h2]
      by_cases h3 : k_arI I fa ba (k_nd (k_arI I fa ba ba 3)) 5 = 0
      · exact Or.inl (if_pos h3)
      · exact Or.inr (if_neg h3)
theorem k_isR_ix {I : xI} {r : Int32} {made : Nat} (hm : I 1 4 = nI made) (hm6 : made ≤ 60) (h : ¬ k_isR I r = 0) : ∃ j : Nat, j < made ∧ r = nI j := by
  unfold k_isR at h
  have h1 : ¬ r < 0 := fun q => h (if_pos q)
  rw [if_neg h1] at h
  have h2 : ¬ I 1 4 ≤ r := fun q => h (if_pos q)
  obtain ⟨j, hj, rfl⟩ := nI_of h1
  rw [hm] at h2
  exact ⟨j, Nat.lt_of_not_le (fun q => h2 (nI_le q hj)), rfl⟩
theorem k_isR_01 (I : xI) (r : Int32) : k_isR I r = 0 ∨ k_isR I r = 1 := by
  unfold k_isR
  by_cases h1 : r < 0
  · exact Or.inl (if_pos h1)
  · rw [if_neg h1]
    by_cases h2 : I 1 4 ≤ r
    · exact Or.inl (if_pos h2)
    · exact Or.inr (if_neg h2)
section part86
variable {G : xG} {z : Nat} {I : Nat → Nat → Int32} {P : Nat → Nat → Option Nat} {post : Option Value → xH → Prop}
set_option maxRecDepth 100000 in
set_option maxHeartbeats 4000000 in
theorem c_B_enterUse (hb : x_bus z P)  (hp : post none (z, k_eu I, P)) : xp G M_B_enterUse 0 [(0, .ref 1)] [] (z, I, P) 0 0 post := by
  obtain ⟨⟨tB, tns, trs, tF, tFb, tG, tGb⟩, ⟨b0, b1, b2, b3, b4, b5⟩, hns, hnd⟩ := id hb
  refine xp_aload_n d_B_enterUse_0 rfl ?_
  refine xp_iconst (v := 0) d_B_enterUse_1 (by decide) ?_
  refine xq_putI d_B_enterUse_2 f_B_98 (by assumption) ?_
  refine xp_aload_n d_B_enterUse_5 rfl ?_
  refine xp_iconst (v := 0) d_B_enterUse_6 (by decide) ?_
  refine xq_putI d_B_enterUse_7 f_B_194 (by assumption) ?_
  refine xp_return_ d_B_enterUse_10 rfl ?_
  exact hp
set_option maxRecDepth 100000 in
set_option maxHeartbeats 4000000 in
theorem c_B_enterPass (hb : x_bus z P)  (hp : post none (z, k_ep I, P)) : xp G M_B_enterPass 0 [(0, .ref 1)] [] (z, I, P) 0 0 post := by
  obtain ⟨⟨tB, tns, trs, tF, tFb, tG, tGb⟩, ⟨b0, b1, b2, b3, b4, b5⟩, hns, hnd⟩ := id hb
  refine xp_aload_n d_B_enterPass_0 rfl ?_
  refine xp_iconst (v := 2) d_B_enterPass_1 (by decide) ?_
  refine xq_putI d_B_enterPass_2 f_B_98 (by assumption) ?_
  refine xp_aload_n d_B_enterPass_5 rfl ?_
  refine xp_iconst (v := 0) d_B_enterPass_6 (by decide) ?_
  refine xq_putI d_B_enterPass_7 f_B_243 (by assumption) ?_
  refine xp_return_ d_B_enterPass_10 rfl ?_
  exact hp
set_option maxRecDepth 100000 in
set_option maxHeartbeats 4000000 in
theorem c_B_forgetSpoiling (hb : x_bus z P)  (hp : post none (z, k_fs I, P)) : xp G M_B_forgetSpoiling 0 [(0, .ref 1)] [] (z, I, P) 0 0 post := by
  obtain ⟨⟨tB, tns, trs, tF, tFb, tG, tGb⟩, ⟨b0, b1, b2, b3, b4, b5⟩, hns, hnd⟩ := id hb
  refine xp_aload_n d_B_forgetSpoiling_0 rfl ?_
  refine xq_getR d_B_forgetSpoiling_1 fg_B_24 (by assumption) (by assumption) ?_
  refine xq_V0v d_B_forgetSpoiling_4 g_B_forgetSpoiling_173 (by assumption) rfl rfl ?_
  refine c_F_forgetSpoiling tF ?_
  refine ⟨rfl, ?_⟩
  refine xp_aload_n d_B_forgetSpoiling_7 rfl ?_
  refine xq_getR d_B_forgetSpoiling_8 fg_B_28 (by assumption) (by assumption) ?_
  refine xq_V0v d_B_forgetSpoiling_11 g_B_forgetSpoiling_173 (by assumption) rfl rfl ?_
  refine c_F_forgetSpoiling tG ?_
  refine ⟨rfl, ?_⟩
  refine xp_return_ d_B_forgetSpoiling_14 rfl ?_
  exact hp
set_option maxRecDepth 100000 in
set_option maxHeartbeats 4000000 in
theorem c_B_beginStep (hb : x_bus z P)  (hp : post none (z, k_bs I, P)) : xp G M_B_beginStep 0 [(0, .ref 1)] [] (z, I, P) 0 0 post := by
  obtain ⟨⟨tB, tns, trs, tF, tFb, tG, tGb⟩, ⟨b0, b1, b2, b3, b4, b5⟩, hns, hnd⟩ := id hb
  refine xp_aload_n d_B_beginStep_0 rfl ?_
  refine xp_dup d_B_beginStep_1 rfl ?_
  refine xq_getI d_B_beginStep_2 fg_B_155 (by assumption) ?_
  refine xp_iconst (v := 1) d_B_beginStep_5 (by decide) ?_
  refine xp_iadd d_B_beginStep_6 ?_
  refine xq_putI d_B_beginStep_7 f_B_155 (by assumption) ?_
  refine xp_aload_n d_B_beginStep_10 rfl ?_
  refine xp_iconst (v := 0) d_B_beginStep_11 (by decide) ?_
  refine xq_putI d_B_beginStep_12 f_B_118 (by assumption) ?_
  refine xp_aload_n d_B_beginStep_15 rfl ?_
  refine xq_getR d_B_beginStep_16 fg_B_24 (by assumption) (by assumption) ?_
  refine xq_V0v d_B_beginStep_19 g_B_beginStep_174 (by assumption) rfl rfl ?_
  refine c_F_empty tF ?_
  refine ⟨rfl, ?_⟩
  refine xp_aload_n d_B_beginStep_22 rfl ?_
  refine xq_getR d_B_beginStep_23 fg_B_28 (by assumption) (by assumption) ?_
  refine xq_V0v d_B_beginStep_26 g_B_beginStep_174 (by assumption) rfl rfl ?_
  refine c_F_empty tG ?_
  refine ⟨rfl, ?_⟩
  refine xp_return_ d_B_beginStep_29 rfl ?_
  exact hp
set_option maxRecDepth 100000 in
set_option maxHeartbeats 4000000 in
theorem c_B_loseTokenOf (hb : x_bus z P) {n : Int32} (hp : post none (z, k_lose I n, P)) : xp G M_B_loseTokenOf 0 [(0, .ref 1), (1, .int n)] [] (z, I, P) 0 0 post := by
  obtain ⟨⟨tB, tns, trs, tF, tFb, tG, tGb⟩, ⟨b0, b1, b2, b3, b4, b5⟩, hns, hnd⟩ := id hb
  unfold k_lose at hp
  refine xp_aload_n d_B_loseTokenOf_0 rfl ?_
  refine xq_getI d_B_loseTokenOf_1 fg_B_31 (by assumption) ?_
  refine xp_iload_n d_B_loseTokenOf_4 rfl ?_
  refine xp_icmp_ne (tgt := 18) d_B_loseTokenOf_5 (by decide) (fun c5 => ?_) (fun c5 => ?_)
  · skip
    refine xp_return_ d_B_loseTokenOf_18 rfl ?_
    simp only [if_neg c5] at hp
    exact hp
  · skip
    refine xp_aload_n d_B_loseTokenOf_8 rfl ?_
    refine xp_iconst (v := -1) d_B_loseTokenOf_9 (by decide) ?_
    refine xq_putI d_B_loseTokenOf_10 f_B_31 (by assumption) ?_
    refine xp_aload_n d_B_loseTokenOf_13 rfl ?_
    refine xp_iconst (v := 0) d_B_loseTokenOf_14 (by decide) ?_
    refine xq_putI d_B_loseTokenOf_15 f_B_161 (by assumption) ?_
    refine xp_return_ d_B_loseTokenOf_18 rfl ?_
    simp only [if_pos c5] at hp
    exact hp
set_option maxRecDepth 100000 in
set_option maxHeartbeats 4000000 in
theorem c_B_isRequest (hb : x_bus z P) {r : Int32} (hp : post (some (.int (k_isR I r))) (z, I, P)) : xp G M_B_isRequest 0 [(0, .ref 1), (1, .int r)] [] (z, I, P) 0 0 post := by
  obtain ⟨⟨tB, tns, trs, tF, tFb, tG, tGb⟩, ⟨b0, b1, b2, b3, b4, b5⟩, hns, hnd⟩ := id hb
  unfold k_isR at hp
  refine xp_iload_n d_B_isRequest_0 rfl ?_
  refine xp_if_lt (tgt := 16) d_B_isRequest_1 (by decide) (fun c1 => ?_) (fun c1 => ?_)
  · skip
    refine xp_iconst (v := 0) d_B_isRequest_16 (by decide) ?_
    refine xp_ireturn d_B_isRequest_17 rfl (x_bit (by first | exact Or.inl rfl | exact Or.inr rfl | assumption)).1 ?_
    simp only [if_pos c1] at hp
    exact hp
  · skip
    refine xp_iload_n d_B_isRequest_4 rfl ?_
    refine xp_aload_n d_B_isRequest_5 rfl ?_
    refine xq_getI d_B_isRequest_6 fg_B_72 (by assumption) ?_
    refine xp_icmp_ge (tgt := 16) d_B_isRequest_9 (by decide) (fun c9 => ?_) (fun c9 => ?_)
    · skip
      refine xp_iconst (v := 0) d_B_isRequest_16 (by decide) ?_
      refine xp_ireturn d_B_isRequest_17 rfl (x_bit (by first | exact Or.inl rfl | exact Or.inr rfl | assumption)).1 ?_
      simp only [if_neg c1, if_pos c9] at hp
      exact hp
    · skip
      refine xp_iconst (v := 1) d_B_isRequest_12 (by decide) ?_
      refine xp_goto (tgt := 17) d_B_isRequest_13 (by decide) ?_
      refine xp_ireturn d_B_isRequest_17 rfl (x_bit (by first | exact Or.inl rfl | exact Or.inr rfl | assumption)).1 ?_
      simp only [if_neg c1, if_neg c9] at hp
      exact hp
set_option maxRecDepth 100000 in
set_option maxHeartbeats 4000000 in
theorem c_B_numbered (hb : x_bus z P) {w : Int32} (hp : post (some (.ref (if w = 0 then 4 else 6))) (z, I, P)) : xp G M_B_numbered 0 [(0, .ref 1), (1, .int w)] [] (z, I, P) 0 0 post := by
  obtain ⟨⟨tB, tns, trs, tF, tFb, tG, tGb⟩, ⟨b0, b1, b2, b3, b4, b5⟩, hns, hnd⟩ := id hb
  refine xp_iload_n d_B_numbered_0 rfl ?_
  refine xp_if_ne (tgt := 11) d_B_numbered_1 (by decide) (fun c1 => ?_) (fun c1 => ?_)
  · skip
    refine xp_aload_n d_B_numbered_11 rfl ?_
    refine xq_getR d_B_numbered_12 fg_B_28 (by assumption) (by assumption) ?_
    refine xp_areturn d_B_numbered_15 rfl ?_
    simp only [if_neg c1] at hp
    exact hp
  · skip
    refine xp_aload_n d_B_numbered_4 rfl ?_
    refine xq_getR d_B_numbered_5 fg_B_24 (by assumption) (by assumption) ?_
    refine xp_goto (tgt := 15) d_B_numbered_8 (by decide) ?_
    refine xp_areturn d_B_numbered_15 rfl ?_
    simp only [if_pos c1] at hp
    exact hp
set_option maxRecDepth 100000 in
set_option maxHeartbeats 4000000 in
theorem c_B_holder (hb : x_bus z P)  (hp : post (some (.int (I 1 5))) (z, I, P)) : xp G M_B_holder 0 [(0, .ref 1)] [] (z, I, P) 0 0 post := by
  obtain ⟨⟨tB, tns, trs, tF, tFb, tG, tGb⟩, ⟨b0, b1, b2, b3, b4, b5⟩, hns, hnd⟩ := id hb
  refine xp_aload_n d_B_holder_0 rfl ?_
  refine xq_getI d_B_holder_1 fg_B_31 (by assumption) ?_
  refine xp_ireturn d_B_holder_4 rfl rfl ?_
  exact hp
set_option maxRecDepth 100000 in
set_option maxHeartbeats 4000000 in
theorem c_B_phase (hb : x_bus z P)  (hp : post (some (.int (k_ph I))) (z, I, P)) : xp G M_B_phase 0 [(0, .ref 1)] [] (z, I, P) 0 0 post := by
  obtain ⟨⟨tB, tns, trs, tF, tFb, tG, tGb⟩, ⟨b0, b1, b2, b3, b4, b5⟩, hns, hnd⟩ := id hb
  unfold k_ph at hp
  refine xp_aload_n d_B_phase_0 rfl ?_
  refine xq_getI d_B_phase_1 fg_B_31 (by assumption) ?_
  refine xp_iconst (v := -1) d_B_phase_4 (by decide) ?_
  refine xp_icmp_ne (tgt := 12) d_B_phase_5 (by decide) (fun c5 => ?_) (fun c5 => ?_)
  · skip
    refine xp_aload_n d_B_phase_12 rfl ?_
    refine xq_getI d_B_phase_13 fg_B_98 (by assumption) ?_
    refine xp_ireturn d_B_phase_16 rfl rfl ?_
    simp only [if_neg c5] at hp
    exact hp
  · skip
    refine xp_iconst (v := -1) d_B_phase_8 (by decide) ?_
    refine xp_goto (tgt := 16) d_B_phase_9 (by decide) ?_
    refine xp_ireturn d_B_phase_16 rfl rfl ?_
    simp only [if_pos c5] at hp
    exact hp
set_option maxRecDepth 100000 in
set_option maxHeartbeats 4000000 in
theorem c_B_total (hb : x_bus z P) {w : Int32} (hp : post (some (.int (k_toV I w))) (z, I, P)) : xp G M_B_total 0 [(0, .ref 1), (1, .int w)] [] (z, I, P) 0 0 post := by
  obtain ⟨⟨tB, tns, trs, tF, tFb, tG, tGb⟩, ⟨b0, b1, b2, b3, b4, b5⟩, hns, hnd⟩ := id hb
  unfold k_toV at hp
  refine xp_iload_n d_B_total_0 rfl ?_
  refine xp_sw1 0 (tgt := 32) (off := 31) d_B_total_1 (by decide) (by decide) (by decide) (fun s1_0 => ?_) (fun s1_0 => ?_)
  · skip
    refine xp_aload_n d_B_total_32 rfl ?_
    refine xq_getI d_B_total_33 fg_B_155 (by assumption) ?_
    refine xp_ireturn d_B_total_36 rfl rfl ?_
    simp only [if_pos s1_0] at hp
    exact hp
  · skip
    refine xp_sw1 1 (tgt := 37) (off := 36) d_B_total_1 (by decide) (by decide) (by decide) (fun s1_1 => ?_) (fun s1_1 => ?_)
    · skip
      refine xp_aload_n d_B_total_37 rfl ?_
      refine xq_getI d_B_total_38 fg_B_158 (by assumption) ?_
      refine xp_ireturn d_B_total_41 rfl rfl ?_
      simp only [if_neg s1_0, if_pos s1_1] at hp
      exact hp
    · skip
      refine xp_sw1 2 (tgt := 42) (off := 41) d_B_total_1 (by decide) (by decide) (by decide) (fun s1_2 => ?_) (fun s1_2 => ?_)
      · skip
        refine xp_aload_n d_B_total_42 rfl ?_
        refine xq_getI d_B_total_43 fg_B_72 (by assumption) ?_
        refine xp_ireturn d_B_total_46 rfl rfl ?_
        simp only [if_neg s1_0, if_neg s1_1, if_pos s1_2] at hp
        exact hp
      · skip
        refine xp_sw1 3 (tgt := 47) (off := 46) d_B_total_1 (by decide) (by decide) (by decide) (fun s1_3 => ?_) (fun s1_3 => ?_)
        · skip
          refine xp_aload_n d_B_total_47 rfl ?_
          refine xq_getI d_B_total_48 fg_B_161 (by assumption) ?_
          refine xp_ireturn d_B_total_51 rfl rfl ?_
          simp only [if_neg s1_0, if_neg s1_1, if_neg s1_2, if_pos s1_3] at hp
          exact hp
        · skip
          have ns1_0 := x_neT s1_0 (show (0 : Int32).toInt = 0 by decide)
          have ns1_1 := x_neT s1_1 (show (1 : Int32).toInt = 1 by decide)
          have ns1_2 := x_neT s1_2 (show (2 : Int32).toInt = 2 by decide)
          have ns1_3 := x_neT s1_3 (show (3 : Int32).toInt = 3 by decide)
          refine xp_tableOut (tgt := 52) d_B_total_1 (by omega) (by decide) ?_
          refine xp_iconst (v := -1) d_B_total_52 (by decide) ?_
          refine xp_ireturn d_B_total_53 rfl rfl ?_
          simp only [if_neg s1_0, if_neg s1_1, if_neg s1_2, if_neg s1_3] at hp
          exact hp
set_option maxRecDepth 100000 in
set_option maxHeartbeats 4000000 in
theorem c_B_sense (hb : x_bus z P) {n v : Int32} (hp : post (some (.int (k_snV n v))) (z, k_snI I n v, P)) : xp G M_B_sense 0 [(0, .ref 1), (1, .int n), (2, .int v)] [] (z, I, P) 0 0 post := by
  obtain ⟨⟨tB, tns, trs, tF, tFb, tG, tGb⟩, ⟨b0, b1, b2, b3, b4, b5⟩, hns, hnd⟩ := id hb
  unfold k_snV k_snI at hp
  refine xp_iload_n d_B_sense_0 rfl ?_
  refine xq_S1r d_B_sense_1 g_B_sense_38 rfl rfl ?_
  refine c_B_isNode ?_
  refine ⟨_, rfl, ?_⟩
  refine xp_if_eq (tgt := 20) d_B_sense_4 (by decide) (fun c4 => ?_) (fun c4 => ?_)
  · skip
    refine xp_iconst (v := 0) d_B_sense_20 (by decide) ?_
    refine xp_ireturn d_B_sense_21 rfl (x_bit (by first | exact Or.inl rfl | exact Or.inr rfl | assumption)).1 ?_
    simp only [if_pos c4] at hp
    exact hp
  · skip
    refine xp_iload_n d_B_sense_7 rfl ?_
    refine xp_sipush (v := -10000) d_B_sense_8 (by decide) ?_
    refine xp_sipush (v := 10000) d_B_sense_11 (by decide) ?_
    refine xq_S3r d_B_sense_14 g_B_sense_52 rfl rfl ?_
    refine c_B_isWithin ?_
    refine ⟨_, rfl, ?_⟩
    refine xp_if_ne (tgt := 22) d_B_sense_17 (by decide) (fun c17 => ?_) (fun c17 => ?_)
    · skip
      obtain ⟨j, hj, rfl⟩ := k_node_ix c4
      obtain ⟨⟨tN, tO, tna, tfl, tL, tq, ts⟩, hs3, ⟨p1, p2, p3, p4, p5, p6⟩, hss⟩ := hnd j (by omega)
      simp only [k_nd_nI hj] at hp
      refine xp_aload_n d_B_sense_22 rfl ?_
      refine xq_getR d_B_sense_23 fg_B_11 (by assumption) (by assumption) ?_
      refine xp_iload_n d_B_sense_26 rfl ?_
      refine xq_aaload d_B_sense_27 (by assumption) (by decide) rfl (by omega) (by decide) (hns j (by omega)) ?_
      refine xp_iload_n d_B_sense_28 rfl ?_
      refine xq_putI d_B_sense_29 f_B_56 (by assumption) ?_
      refine xp_iconst (v := 1) d_B_sense_32 (by decide) ?_
      refine xp_ireturn d_B_sense_33 rfl (x_bit (by first | exact Or.inl rfl | exact Or.inr rfl | assumption)).1 ?_
      simp only [if_neg c4, if_neg c17] at hp
      exact hp
    · skip
      refine xp_iconst (v := 0) d_B_sense_20 (by decide) ?_
      refine xp_ireturn d_B_sense_21 rfl (x_bit (by first | exact Or.inl rfl | exact Or.inr rfl | assumption)).1 ?_
      simp only [if_neg c4, if_pos c17] at hp
      exact hp
set_option maxRecDepth 100000 in
set_option maxHeartbeats 4000000 in
theorem c_B_gains (hb : x_bus z P) {n p i : Int32} (hp : post (some (.int (k_gaV n p i))) (z, k_gaI I n p i, P)) : xp G M_B_gains 0 [(0, .ref 1), (1, .int n), (2, .int p), (3, .int i)] [] (z, I, P) 0 0 post := by
  obtain ⟨⟨tB, tns, trs, tF, tFb, tG, tGb⟩, ⟨b0, b1, b2, b3, b4, b5⟩, hns, hnd⟩ := id hb
  unfold k_gaV k_gaI at hp
  refine xp_iload_n d_B_gains_0 rfl ?_
  refine xq_S1r d_B_gains_1 g_B_gains_38 rfl rfl ?_
  refine c_B_isNode ?_
  refine ⟨_, rfl, ?_⟩
  refine xp_if_eq (tgt := 27) d_B_gains_4 (by decide) (fun c4 => ?_) (fun c4 => ?_)
  · skip
    refine xp_iconst (v := 0) d_B_gains_27 (by decide) ?_
    refine xp_ireturn d_B_gains_28 rfl (x_bit (by first | exact Or.inl rfl | exact Or.inr rfl | assumption)).1 ?_
    simp only [if_pos c4] at hp
    exact hp
  · skip
    refine xp_iload_n d_B_gains_7 rfl ?_
    refine xp_iconst (v := 0) d_B_gains_8 (by decide) ?_
    refine xp_bipush (v := 100) d_B_gains_9 (by decide) ?_
    refine xq_S3r d_B_gains_11 g_B_gains_52 rfl rfl ?_
    refine c_B_isWithin ?_
    refine ⟨_, rfl, ?_⟩
    refine xp_if_eq (tgt := 27) d_B_gains_14 (by decide) (fun c14 => ?_) (fun c14 => ?_)
    · skip
      refine xp_iconst (v := 0) d_B_gains_27 (by decide) ?_
      refine xp_ireturn d_B_gains_28 rfl (x_bit (by first | exact Or.inl rfl | exact Or.inr rfl | assumption)).1 ?_
      simp only [if_neg c4, if_pos c14] at hp
      exact hp
    · skip
      refine xp_iload_n d_B_gains_17 rfl ?_
      refine xp_iconst (v := 0) d_B_gains_18 (by decide) ?_
      refine xp_bipush (v := 100) d_B_gains_19 (by decide) ?_
      refine xq_S3r d_B_gains_21 g_B_gains_52 rfl rfl ?_
      refine c_B_isWithin ?_
      refine ⟨_, rfl, ?_⟩
      refine xp_if_ne (tgt := 29) d_B_gains_24 (by decide) (fun c24 => ?_) (fun c24 => ?_)
      · skip
        obtain ⟨j, hj, rfl⟩ := k_node_ix c4
        obtain ⟨⟨tN, tO, tna, tfl, tL, tq, ts⟩, hs3, ⟨p1, p2, p3, p4, p5, p6⟩, hss⟩ := hnd j (by omega)
        simp only [k_nd_nI hj] at hp
        refine xp_aload_n d_B_gains_29 rfl ?_
        refine xq_getR d_B_gains_30 fg_B_11 (by assumption) (by assumption) ?_
        refine xp_iload_n d_B_gains_33 rfl ?_
        refine xq_aaload d_B_gains_34 (by assumption) (by decide) rfl (by omega) (by decide) (hns j (by omega)) ?_
        refine xq_getR d_B_gains_35 fg_B_59 (by assumption) (by assumption) ?_
        refine xp_iload_n d_B_gains_38 rfl ?_
        refine xp_iload_n d_B_gains_39 rfl ?_
        refine xq_V2v d_B_gains_40 g_B_gains_63 (by assumption) rfl rfl ?_
        refine c_L_tune tL ?_
        refine ⟨rfl, ?_⟩
        refine xp_iconst (v := 1) d_B_gains_43 (by decide) ?_
        refine xp_ireturn d_B_gains_44 rfl (x_bit (by first | exact Or.inl rfl | exact Or.inr rfl | assumption)).1 ?_
        simp only [if_neg c4, if_neg c14, if_neg c24] at hp
        exact hp
      · skip
        refine xp_iconst (v := 0) d_B_gains_27 (by decide) ?_
        refine xp_ireturn d_B_gains_28 rfl (x_bit (by first | exact Or.inl rfl | exact Or.inr rfl | assumption)).1 ?_
        simp only [if_neg c4, if_neg c14, if_pos c24] at hp
        exact hp
set_option maxRecDepth 100000 in
set_option maxHeartbeats 4000000 in
theorem c_B_power (hb : x_bus z P) {n on : Int32} (hp : post (some (.int (k_pwV I n on))) (z, k_pwI I n on, P)) : xp G M_B_power 0 [(0, .ref 1), (1, .int n), (2, .int on)] [] (z, I, P) 0 0 post := by
  obtain ⟨⟨tB, tns, trs, tF, tFb, tG, tGb⟩, ⟨b0, b1, b2, b3, b4, b5⟩, hns, hnd⟩ := id hb
  unfold k_pwV k_pwI at hp
  refine xp_iload_n d_B_power_0 rfl ?_
  refine xq_S1r d_B_power_1 g_B_power_38 rfl rfl ?_
  refine c_B_isNode ?_
  refine ⟨_, rfl, ?_⟩
  refine xp_if_eq (tgt := 20) d_B_power_4 (by decide) (fun c4 => ?_) (fun c4 => ?_)
  · skip
    refine xp_iconst (v := 0) d_B_power_20 (by decide) ?_
    refine xp_ireturn d_B_power_21 rfl (x_bit (by first | exact Or.inl rfl | exact Or.inr rfl | assumption)).1 ?_
    simp only [if_pos c4] at hp
    exact hp
  · skip
    obtain ⟨j, hj, rfl⟩ := k_node_ix c4
    obtain ⟨⟨tN, tO, tna, tfl, tL, tq, ts⟩, hs3, ⟨p1, p2, p3, p4, p5, p6⟩, hss⟩ := hnd j (by omega)
    simp only [k_nd_nI hj] at hp
    refine xp_aload_n d_B_power_7 rfl ?_
    refine xq_getR d_B_power_8 fg_B_11 (by assumption) (by assumption) ?_
    refine xp_iload_n d_B_power_11 rfl ?_
    refine xq_aaload d_B_power_12 (by assumption) (by decide) rfl (by omega) (by decide) (hns j (by omega)) ?_
    refine xq_getI d_B_power_13 fg_B_42 (by assumption) ?_
    refine xp_iload_n d_B_power_16 rfl ?_
    refine xp_icmp_ne (tgt := 22) d_B_power_17 (by decide) (fun c17 => ?_) (fun c17 => ?_)
    · skip
      refine xp_iload_n d_B_power_22 rfl ?_
      refine xp_if_eq (tgt := 38) d_B_power_23 (by decide) (fun c23 => ?_) (fun c23 => ?_)
      · skip
        refine xp_aload_n d_B_power_38 rfl ?_
        refine xq_getR d_B_power_39 fg_B_11 (by assumption) (by assumption) ?_
        refine xp_iload_n d_B_power_42 rfl ?_
        refine xq_aaload d_B_power_43 (by assumption) (by decide) rfl (by omega) (by decide) (hns j (by omega)) ?_
        refine xp_iconst (v := 0) d_B_power_44 (by decide) ?_
        refine xq_putZ d_B_power_45 f_B_42 (by first | exact Or.inl rfl | exact Or.inr rfl | assumption) (by assumption) ?_
        refine xp_aload_n d_B_power_48 rfl ?_
        refine xp_iload_n d_B_power_49 rfl ?_
        refine xq_V1v d_B_power_50 g_B_power_49 (by assumption) rfl rfl ?_
        refine c_B_loseTokenOf hb ?_
        refine ⟨rfl, ?_⟩
        refine xp_iconst (v := 1) d_B_power_53 (by decide) ?_
        refine xp_ireturn d_B_power_54 rfl (x_bit (by first | exact Or.inl rfl | exact Or.inr rfl | assumption)).1 ?_
        simp only [if_neg c4, if_neg c17, if_pos c23] at hp
        exact hp
      · skip
        refine xp_aload_n d_B_power_26 rfl ?_
        refine xq_getR d_B_power_27 fg_B_11 (by assumption) (by assumption) ?_
        refine xp_iload_n d_B_power_30 rfl ?_
        refine xq_aaload d_B_power_31 (by assumption) (by decide) rfl (by omega) (by decide) (hns j (by omega)) ?_
        refine xq_V0v d_B_power_32 g_B_power_46 (by assumption) rfl rfl ?_
        refine c_N_getPower (hnd j (by omega)) ?_
        refine ⟨rfl, ?_⟩
        refine xp_goto (tgt := 53) d_B_power_35 (by decide) ?_
        refine xp_iconst (v := 1) d_B_power_53 (by decide) ?_
        refine xp_ireturn d_B_power_54 rfl (x_bit (by first | exact Or.inl rfl | exact Or.inr rfl | assumption)).1 ?_
        simp only [if_neg c4, if_neg c17, if_neg c23] at hp
        exact hp
    · skip
      refine xp_iconst (v := 0) d_B_power_20 (by decide) ?_
      refine xp_ireturn d_B_power_21 rfl (x_bit (by first | exact Or.inl rfl | exact Or.inr rfl | assumption)).1 ?_
      simp only [if_neg c4, if_pos c17] at hp
      exact hp
set_option maxRecDepth 100000 in
set_option maxHeartbeats 4000000 in
theorem c_B_node (hb : x_bus z P) {n w : Int32} (hp : post (some (.int (k_noV I n w))) (z, I, P)) : xp G M_B_node 0 [(0, .ref 1), (1, .int n), (2, .int w)] [] (z, I, P) 0 0 post := by
  obtain ⟨⟨tB, tns, trs, tF, tFb, tG, tGb⟩, ⟨b0, b1, b2, b3, b4, b5⟩, hns, hnd⟩ := id hb
  unfold k_noV at hp
  refine xp_iload_n d_B_node_0 rfl ?_
  refine xq_S1r d_B_node_1 g_B_node_38 rfl rfl ?_
  refine c_B_isNode ?_
  refine ⟨_, rfl, ?_⟩
  refine xp_if_eq (tgt := 20) d_B_node_4 (by decide) (fun c4 => ?_) (fun c4 => ?_)
  · skip
    refine xp_iconst (v := -1) d_B_node_20 (by decide) ?_
    refine xp_ireturn d_B_node_21 rfl rfl ?_
    simp only [if_pos c4] at hp
    exact hp
  · skip
    obtain ⟨j, hj, rfl⟩ := k_node_ix c4
    obtain ⟨⟨tN, tO, tna, tfl, tL, tq, ts⟩, hs3, ⟨p1, p2, p3, p4, p5, p6⟩, hss⟩ := hnd j (by omega)
    simp only [k_nd_nI hj] at hp
    refine xp_aload_n d_B_node_7 rfl ?_
    refine xq_getR d_B_node_8 fg_B_11 (by assumption) (by assumption) ?_
    refine xp_iload_n d_B_node_11 rfl ?_
    refine xq_aaload d_B_node_12 (by assumption) (by decide) rfl (by omega) (by decide) (hns j (by omega)) ?_
    refine xp_iload_n d_B_node_13 rfl ?_
    refine xq_V1r d_B_node_14 g_B_node_121 (by assumption) rfl rfl ?_
    refine c_N_fact (hnd j (by omega)) ?_
    refine ⟨_, rfl, ?_⟩
    refine xp_goto (tgt := 21) d_B_node_17 (by decide) ?_
    refine xp_ireturn d_B_node_21 rfl rfl ?_
    simp only [if_neg c4] at hp
    exact hp
set_option maxRecDepth 100000 in
set_option maxHeartbeats 4000000 in
theorem c_B_value (hb : x_bus z P) {n w : Int32} (hp : post (some (.int (k_vaV I n w))) (z, I, P)) : xp G M_B_value 0 [(0, .ref 1), (1, .int n), (2, .int w)] [] (z, I, P) 0 0 post := by
  obtain ⟨⟨tB, tns, trs, tF, tFb, tG, tGb⟩, ⟨b0, b1, b2, b3, b4, b5⟩, hns, hnd⟩ := id hb
  unfold k_vaV at hp
  refine xp_iload_n d_B_value_0 rfl ?_
  refine xq_S1r d_B_value_1 g_B_value_38 rfl rfl ?_
  refine c_B_isNode ?_
  refine ⟨_, rfl, ?_⟩
  refine xp_if_eq (tgt := 20) d_B_value_4 (by decide) (fun c4 => ?_) (fun c4 => ?_)
  · skip
    refine xp_iconst (v := 0) d_B_value_20 (by decide) ?_
    refine xp_ireturn d_B_value_21 rfl rfl ?_
    simp only [if_pos c4] at hp
    exact hp
  · skip
    obtain ⟨j, hj, rfl⟩ := k_node_ix c4
    obtain ⟨⟨tN, tO, tna, tfl, tL, tq, ts⟩, hs3, ⟨p1, p2, p3, p4, p5, p6⟩, hss⟩ := hnd j (by omega)
    simp only [k_nd_nI hj] at hp
    refine xp_aload_n d_B_value_7 rfl ?_
    refine xq_getR d_B_value_8 fg_B_11 (by assumption) (by assumption) ?_
    refine xp_iload_n d_B_value_11 rfl ?_
    refine xq_aaload d_B_value_12 (by assumption) (by decide) rfl (by omega) (by decide) (hns j (by omega)) ?_
    refine xp_iload_n d_B_value_13 rfl ?_
    refine xq_V1r d_B_value_14 g_B_value_125 (by assumption) rfl rfl ?_
    refine c_N_objectValue (hnd j (by omega)) ?_
    refine ⟨_, rfl, ?_⟩
    refine xp_goto (tgt := 21) d_B_value_17 (by decide) ?_
    refine xp_ireturn d_B_value_21 rfl rfl ?_
    simp only [if_neg c4] at hp
    exact hp
set_option maxRecDepth 100000 in
set_option maxHeartbeats 4000000 in
theorem c_B_noted (hb : x_bus z P) {n w : Int32} (hp : post (some (.int (k_ntV I n w))) (z, I, P)) : xp G M_B_noted 0 [(0, .ref 1), (1, .int n), (2, .int w)] [] (z, I, P) 0 0 post := by
  obtain ⟨⟨tB, tns, trs, tF, tFb, tG, tGb⟩, ⟨b0, b1, b2, b3, b4, b5⟩, hns, hnd⟩ := id hb
  unfold k_ntV at hp
  refine xp_iload_n d_B_noted_0 rfl ?_
  refine xq_S1r d_B_noted_1 g_B_noted_38 rfl rfl ?_
  refine c_B_isNode ?_
  refine ⟨_, rfl, ?_⟩
  refine xp_if_eq (tgt := 20) d_B_noted_4 (by decide) (fun c4 => ?_) (fun c4 => ?_)
  · skip
    refine xp_iconst (v := -1) d_B_noted_20 (by decide) ?_
    refine xp_ireturn d_B_noted_21 rfl rfl ?_
    simp only [if_pos c4] at hp
    exact hp
  · skip
    obtain ⟨j, hj, rfl⟩ := k_node_ix c4
    obtain ⟨⟨tN, tO, tna, tfl, tL, tq, ts⟩, hs3, ⟨p1, p2, p3, p4, p5, p6⟩, hss⟩ := hnd j (by omega)
    simp only [k_nd_nI hj] at hp
    refine xp_aload_n d_B_noted_7 rfl ?_
    refine xq_getR d_B_noted_8 fg_B_11 (by assumption) (by assumption) ?_
    refine xp_iload_n d_B_noted_11 rfl ?_
    refine xq_aaload d_B_noted_12 (by assumption) (by decide) rfl (by omega) (by decide) (hns j (by omega)) ?_
    refine xp_iload_n d_B_noted_13 rfl ?_
    refine xq_V1r d_B_noted_14 g_B_noted_149 (by assumption) rfl rfl ?_
    refine c_N_notedFact (hnd j (by omega)) ?_
    refine ⟨_, rfl, ?_⟩
    refine xp_goto (tgt := 21) d_B_noted_17 (by decide) ?_
    refine xp_ireturn d_B_noted_21 rfl rfl ?_
    simp only [if_neg c4] at hp
    exact hp
set_option maxRecDepth 100000 in
set_option maxHeartbeats 4000000 in
theorem c_B_level (hb : x_bus z P) {n l : Int32} (hp : post (some (.int (k_leV I n l))) (z, I, P)) : xp G M_B_level 0 [(0, .ref 1), (1, .int n), (2, .int l)] [] (z, I, P) 0 0 post := by
  obtain ⟨⟨tB, tns, trs, tF, tFb, tG, tGb⟩, ⟨b0, b1, b2, b3, b4, b5⟩, hns, hnd⟩ := id hb
  unfold k_leV at hp
  refine xp_iload_n d_B_level_0 rfl ?_
  refine xq_S1r d_B_level_1 g_B_level_38 rfl rfl ?_
  refine c_B_isNode ?_
  refine ⟨_, rfl, ?_⟩
  refine xp_if_eq (tgt := 23) d_B_level_4 (by decide) (fun c4 => ?_) (fun c4 => ?_)
  · skip
    refine xp_iconst (v := 0) d_B_level_23 (by decide) ?_
    refine xp_ireturn d_B_level_24 rfl rfl ?_
    simp only [if_pos c4] at hp
    exact hp
  · skip
    obtain ⟨j, hj, rfl⟩ := k_node_ix c4
    obtain ⟨⟨tN, tO, tna, tfl, tL, tq, ts⟩, hs3, ⟨p1, p2, p3, p4, p5, p6⟩, hss⟩ := hnd j (by omega)
    simp only [k_nd_nI hj] at hp
    refine xp_aload_n d_B_level_7 rfl ?_
    refine xq_getR d_B_level_8 fg_B_11 (by assumption) (by assumption) ?_
    refine xp_iload_n d_B_level_11 rfl ?_
    refine xq_aaload d_B_level_12 (by assumption) (by decide) rfl (by omega) (by decide) (hns j (by omega)) ?_
    refine xq_getR d_B_level_13 fg_B_128 (by assumption) (by assumption) ?_
    refine xp_iload_n d_B_level_16 rfl ?_
    refine xq_V1r d_B_level_17 g_B_level_132 (by assumption) rfl rfl ?_
    refine c_O_numberAt tO tna tfl p2 p3 ?_
    refine ⟨_, rfl, ?_⟩
    refine xp_goto (tgt := 24) d_B_level_20 (by decide) ?_
    refine xp_ireturn d_B_level_24 rfl rfl ?_
    simp only [if_neg c4] at hp
    exact hp
set_option maxRecDepth 100000 in
set_option maxHeartbeats 4000000 in
theorem c_B_set (hb : x_bus z P) {n l : Int32} (hp : post (some (.int (k_seV I n l))) (z, I, P)) : xp G M_B_set 0 [(0, .ref 1), (1, .int n), (2, .int l)] [] (z, I, P) 0 0 post := by
  obtain ⟨⟨tB, tns, trs, tF, tFb, tG, tGb⟩, ⟨b0, b1, b2, b3, b4, b5⟩, hns, hnd⟩ := id hb
  unfold k_seV at hp
  refine xp_iload_n d_B_set_0 rfl ?_
  refine xq_S1r d_B_set_1 g_B_set_38 rfl rfl ?_
  refine c_B_isNode ?_
  refine ⟨_, rfl, ?_⟩
  refine xp_if_eq (tgt := 27) d_B_set_4 (by decide) (fun c4 => ?_) (fun c4 => ?_)
  · skip
    refine xp_iconst (v := 0) d_B_set_27 (by decide) ?_
    refine xp_ireturn d_B_set_28 rfl (x_bit (by first | exact Or.inl rfl | exact Or.inr rfl | assumption)).1 ?_
    simp only [if_pos c4] at hp
    exact hp
  · skip
    obtain ⟨j, hj, rfl⟩ := k_node_ix c4
    obtain ⟨⟨tN, tO, tna, tfl, tL, tq, ts⟩, hs3, ⟨p1, p2, p3, p4, p5, p6⟩, hss⟩ := hnd j (by omega)
    simp only [k_nd_nI hj] at hp
    refine xp_aload_n d_B_set_7 rfl ?_
    refine xq_getR d_B_set_8 fg_B_11 (by assumption) (by assumption) ?_
    refine xp_iload_n d_B_set_11 rfl ?_
    refine xq_aaload d_B_set_12 (by assumption) (by decide) rfl (by omega) (by decide) (hns j (by omega)) ?_
    refine xq_getR d_B_set_13 fg_B_128 (by assumption) (by assumption) ?_
    refine xp_iload_n d_B_set_16 rfl ?_
    refine xq_V1r d_B_set_17 g_B_set_137 (by assumption) rfl rfl ?_
    refine c_O_isFilled tO tna tfl p2 p3 ?_
    refine ⟨_, rfl, ?_⟩
    refine xp_if_eq (tgt := 27) d_B_set_20 (by decide) (fun c20 => ?_) (fun c20 => ?_)
    · skip
      refine xp_iconst (v := 0) d_B_set_27 (by decide) ?_
      refine xp_ireturn d_B_set_28 rfl (x_bit (by first | exact Or.inl rfl | exact Or.inr rfl | assumption)).1 ?_
      simp only [if_neg c4, if_pos c20] at hp
      exact hp
    · skip
      refine xp_iconst (v := 1) d_B_set_23 (by decide) ?_
      refine xp_goto (tgt := 28) d_B_set_24 (by decide) ?_
      refine xp_ireturn d_B_set_28 rfl (x_bit (by first | exact Or.inl rfl | exact Or.inr rfl | assumption)).1 ?_
      simp only [if_neg c4, if_neg c20] at hp
      exact hp
set_option maxRecDepth 100000 in
set_option maxHeartbeats 4000000 in
theorem c_B_state (hb : x_bus z P) {r : Int32} {made : Nat} (hm : I 1 4 = nI made) (hm6 : made ≤ 60) (hrq : ∀ k, k < made → P 3 k = some (101 + k) ∧ x_at 2 z (101 + k)) (hp : post (some (.int (k_stV I r))) (z, I, P)) : xp G M_B_state 0 [(0, .ref 1), (1, .int r)] [] (z, I, P) 0 0 post := by
  obtain ⟨⟨tB, tns, trs, tF, tFb, tG, tGb⟩, ⟨b0, b1, b2, b3, b4, b5⟩, hns, hnd⟩ := id hb
  unfold k_stV at hp
  refine xp_aload_n d_B_state_0 rfl ?_
  refine xp_iload_n d_B_state_1 rfl ?_
  refine xq_V1r d_B_state_2 g_B_state_140 (by assumption) rfl rfl ?_
  refine c_B_isRequest hb ?_
  refine ⟨_, rfl, ?_⟩
  refine xp_if_eq (tgt := 20) d_B_state_5 (by decide) (fun c5 => ?_) (fun c5 => ?_)
  · skip
    refine xp_iconst (v := -1) d_B_state_20 (by decide) ?_
    refine xp_ireturn d_B_state_21 rfl rfl ?_
    simp only [if_pos c5] at hp
    exact hp
  · skip
    obtain ⟨j, hj, rfl⟩ := k_isR_ix hm hm6 c5
    obtain ⟨q1, q2⟩ := hrq j hj
    rw [nI_clamp (by omega)] at hp
    refine xp_aload_n d_B_state_8 rfl ?_
    refine xq_getR d_B_state_9 fg_B_17 (by assumption) (by assumption) ?_
    refine xp_iload_n d_B_state_12 rfl ?_
    refine xq_aaload d_B_state_13 (by assumption) (by decide) rfl (by omega) (by decide) (by assumption) ?_
    refine xq_getI d_B_state_14 fg_B_143 (by assumption) ?_
    refine xp_goto (tgt := 21) d_B_state_17 (by decide) ?_
    refine xp_ireturn d_B_state_21 rfl rfl ?_
    simp only [if_neg c5] at hp
    exact hp
set_option maxRecDepth 100000 in
set_option maxHeartbeats 4000000 in
theorem c_B_answer (hb : x_bus z P) {r : Int32} {made : Nat} (hm : I 1 4 = nI made) (hm6 : made ≤ 60) (hrq : ∀ k, k < made → P 3 k = some (101 + k) ∧ x_at 2 z (101 + k)) (hp : post (some (.int (k_anV I r))) (z, I, P)) : xp G M_B_answer 0 [(0, .ref 1), (1, .int r)] [] (z, I, P) 0 0 post := by
  obtain ⟨⟨tB, tns, trs, tF, tFb, tG, tGb⟩, ⟨b0, b1, b2, b3, b4, b5⟩, hns, hnd⟩ := id hb
  unfold k_anV at hp
  refine xp_aload_n d_B_answer_0 rfl ?_
  refine xp_iload_n d_B_answer_1 rfl ?_
  refine xq_V1r d_B_answer_2 g_B_answer_140 (by assumption) rfl rfl ?_
  refine c_B_isRequest hb ?_
  refine ⟨_, rfl, ?_⟩
  refine xp_if_eq (tgt := 33) d_B_answer_5 (by decide) (fun c5 => ?_) (fun c5 => ?_)
  · skip
    refine xp_iconst (v := 0) d_B_answer_33 (by decide) ?_
    refine xp_ireturn d_B_answer_34 rfl rfl ?_
    simp only [if_pos c5] at hp
    exact hp
  · skip
    obtain ⟨j, hj, rfl⟩ := k_isR_ix hm hm6 c5
    obtain ⟨q1, q2⟩ := hrq j hj
    rw [nI_clamp (by omega)] at hp
    refine xp_aload_n d_B_answer_8 rfl ?_
    refine xq_getR d_B_answer_9 fg_B_17 (by assumption) (by assumption) ?_
    refine xp_iload_n d_B_answer_12 rfl ?_
    refine xq_aaload d_B_answer_13 (by assumption) (by decide) rfl (by omega) (by decide) (by assumption) ?_
    refine xq_getI d_B_answer_14 fg_B_143 (by assumption) ?_
    refine xp_iconst (v := 1) d_B_answer_17 (by decide) ?_
    refine xp_icmp_ne (tgt := 33) d_B_answer_18 (by decide) (fun c18 => ?_) (fun c18 => ?_)
    · skip
      refine xp_iconst (v := 0) d_B_answer_33 (by decide) ?_
      refine xp_ireturn d_B_answer_34 rfl rfl ?_
      simp only [if_neg c5, if_neg c18] at hp
      exact hp
    · skip
      refine xp_aload_n d_B_answer_21 rfl ?_
      refine xq_getR d_B_answer_22 fg_B_17 (by assumption) (by assumption) ?_
      refine xp_iload_n d_B_answer_25 rfl ?_
      refine xq_aaload d_B_answer_26 (by assumption) (by decide) rfl (by omega) (by decide) (by assumption) ?_
      refine xq_getI d_B_answer_27 fg_B_146 (by assumption) ?_
      refine xp_goto (tgt := 34) d_B_answer_30 (by decide) ?_
      refine xp_ireturn d_B_answer_34 rfl rfl ?_
      simp only [if_neg c5, if_pos c18] at hp
      exact hp
set_option maxRecDepth 100000 in
set_option maxHeartbeats 4000000 in
theorem c_B_spoil (hb : x_bus z P) {w a m : Int32} (hp : post (some (.int (k_soV w a m))) (z, k_soI I w a m, P)) : xp G M_B_spoil 0 [(0, .ref 1), (1, .int w), (2, .int a), (3, .int m)] [] (z, I, P) 0 0 post := by
  obtain ⟨⟨tB, tns, trs, tF, tFb, tG, tGb⟩, ⟨b0, b1, b2, b3, b4, b5⟩, hns, hnd⟩ := id hb
  unfold k_soV k_soI at hp
  refine xp_iload_n d_B_spoil_0 rfl ?_
  refine xp_iconst (v := 0) d_B_spoil_1 (by decide) ?_
  refine xp_iconst (v := 1) d_B_spoil_2 (by decide) ?_
  refine xq_S3r d_B_spoil_3 g_B_spoil_52 rfl rfl ?_
  refine c_B_isWithin ?_
  refine ⟨_, rfl, ?_⟩
  refine xp_if_eq (tgt := 30) d_B_spoil_6 (by decide) (fun c6 => ?_) (fun c6 => ?_)
  · skip
    refine xp_iconst (v := 0) d_B_spoil_30 (by decide) ?_
    refine xp_ireturn d_B_spoil_31 rfl (x_bit (by first | exact Or.inl rfl | exact Or.inr rfl | assumption)).1 ?_
    simp only [if_pos c6] at hp
    exact hp
  · skip
    refine xp_iload_n d_B_spoil_9 rfl ?_
    refine xp_iconst (v := 0) d_B_spoil_10 (by decide) ?_
    refine xp_bipush (v := 17) d_B_spoil_11 (by decide) ?_
    refine xq_S3r d_B_spoil_13 g_B_spoil_52 rfl rfl ?_
    refine c_B_isWithin ?_
    refine ⟨_, rfl, ?_⟩
    refine xp_if_eq (tgt := 30) d_B_spoil_16 (by decide) (fun c16 => ?_) (fun c16 => ?_)
    · skip
      refine xp_iconst (v := 0) d_B_spoil_30 (by decide) ?_
      refine xp_ireturn d_B_spoil_31 rfl (x_bit (by first | exact Or.inl rfl | exact Or.inr rfl | assumption)).1 ?_
      simp only [if_neg c6, if_pos c16] at hp
      exact hp
    · skip
      refine xp_iload_n d_B_spoil_19 rfl ?_
      refine xp_iconst (v := 1) d_B_spoil_20 (by decide) ?_
      refine xp_sipush (v := 255) d_B_spoil_21 (by decide) ?_
      refine xq_S3r d_B_spoil_24 g_B_spoil_52 rfl rfl ?_
      refine c_B_isWithin ?_
      refine ⟨_, rfl, ?_⟩
      refine xp_if_ne (tgt := 32) d_B_spoil_27 (by decide) (fun c27 => ?_) (fun c27 => ?_)
      · skip
        refine xp_aload_n d_B_spoil_32 rfl ?_
        refine xq_V0v d_B_spoil_33 g_B_spoil_82 (by assumption) rfl rfl ?_
        refine c_B_forgetSpoiling hb ?_
        refine ⟨rfl, ?_⟩
        refine xp_aload_n d_B_spoil_36 rfl ?_
        refine xp_iload_n d_B_spoil_37 rfl ?_
        refine xq_V1r d_B_spoil_38 g_B_spoil_85 (by assumption) rfl rfl ?_
        refine c_B_numbered hb ?_
        refine ⟨_, rfl, ?_⟩
        by_cases hw : w = 0
        · rw [if_pos hw]
          refine xp_iload_n d_B_spoil_41 rfl ?_
          refine xp_iload_n d_B_spoil_42 rfl ?_
          refine xq_V2v d_B_spoil_43 g_B_spoil_89 (by assumption) rfl rfl ?_
          refine c_F_planSpoiling tF ?_
          refine ⟨rfl, ?_⟩
          refine xp_iconst (v := 1) d_B_spoil_46 (by decide) ?_
          refine xp_ireturn d_B_spoil_47 rfl (x_bit (by first | exact Or.inl rfl | exact Or.inr rfl | assumption)).1 ?_
          simp only [if_neg c6, if_neg c16, if_neg c27, if_pos hw] at hp
          exact hp
        · rw [if_neg hw]
          refine xp_iload_n d_B_spoil_41 rfl ?_
          refine xp_iload_n d_B_spoil_42 rfl ?_
          refine xq_V2v d_B_spoil_43 g_B_spoil_89 (by assumption) rfl rfl ?_
          refine c_F_planSpoiling tG ?_
          refine ⟨rfl, ?_⟩
          refine xp_iconst (v := 1) d_B_spoil_46 (by decide) ?_
          refine xp_ireturn d_B_spoil_47 rfl (x_bit (by first | exact Or.inl rfl | exact Or.inr rfl | assumption)).1 ?_
          simp only [if_neg c6, if_neg c16, if_neg c27, if_neg hw] at hp
          exact hp
      · skip
        refine xp_iconst (v := 0) d_B_spoil_30 (by decide) ?_
        refine xp_ireturn d_B_spoil_31 rfl (x_bit (by first | exact Or.inl rfl | exact Or.inr rfl | assumption)).1 ?_
        simp only [if_neg c6, if_neg c16, if_pos c27] at hp
        exact hp
set_option maxRecDepth 100000 in
set_option maxHeartbeats 4000000 in
theorem c_B_frame (hb : x_bus z P) {w i : Int32} {s0 s1 : Nat} (h0 : s0 ≤ 18) (h1 : s1 ≤ 18) (e0 : I 4 1 = nI s0) (e1 : I 6 1 = nI s1) (hp : post (some (.int (k_frV I w i))) (z, I, P)) : xp G M_B_frame 0 [(0, .ref 1), (1, .int w), (2, .int i)] [] (z, I, P) 0 0 post := by
  obtain ⟨⟨tB, tns, trs, tF, tFb, tG, tGb⟩, ⟨b0, b1, b2, b3, b4, b5⟩, hns, hnd⟩ := id hb
  unfold k_frV at hp
  refine xp_iload_n d_B_frame_0 rfl ?_
  refine xp_iconst (v := 0) d_B_frame_1 (by decide) ?_
  refine xp_iconst (v := 1) d_B_frame_2 (by decide) ?_
  refine xq_S3r d_B_frame_3 g_B_frame_52 rfl rfl ?_
  refine c_B_isWithin ?_
  refine ⟨_, rfl, ?_⟩
  refine xp_if_eq (tgt := 21) d_B_frame_6 (by decide) (fun c6 => ?_) (fun c6 => ?_)
  · skip
    refine xp_iconst (v := -1) d_B_frame_21 (by decide) ?_
    refine xp_ireturn d_B_frame_22 rfl rfl ?_
    simp only [if_pos c6] at hp
    exact hp
  · skip
    refine xp_aload_n d_B_frame_9 rfl ?_
    refine xp_iload_n d_B_frame_10 rfl ?_
    refine xq_V1r d_B_frame_11 g_B_frame_85 (by assumption) rfl rfl ?_
    refine c_B_numbered hb ?_
    refine ⟨_, rfl, ?_⟩
    by_cases hw : w = 0
    · rw [if_pos hw]
      refine xp_iload_n d_B_frame_14 rfl ?_
      refine xq_V1r d_B_frame_15 g_B_frame_152 (by assumption) rfl rfl ?_
      refine c_F_byteOrSize tF tFb b4 h0 e0 ?_
      refine ⟨_, rfl, ?_⟩
      refine xp_goto (tgt := 22) d_B_frame_18 (by decide) ?_
      refine xp_ireturn d_B_frame_22 rfl rfl ?_
      simp only [if_neg c6, if_pos hw] at hp
      exact hp
    · rw [if_neg hw]
      refine xp_iload_n d_B_frame_14 rfl ?_
      refine xq_V1r d_B_frame_15 g_B_frame_152 (by assumption) rfl rfl ?_
      refine c_F_byteOrSize tG tGb b5 h1 e1 ?_
      refine ⟨_, rfl, ?_⟩
      refine xp_goto (tgt := 22) d_B_frame_18 (by decide) ?_
      refine xp_ireturn d_B_frame_22 rfl rfl ?_
      simp only [if_neg c6, if_neg hw] at hp
      exact hp
set_option maxRecDepth 100000 in
set_option maxHeartbeats 4000000 in
theorem c_B_arrives (hb : x_bus z P) {fa ba s : Nat} (hfb : (fa = 4 ∧ ba = 5) ∨ (fa = 6 ∧ ba = 7)) (hs : s < 18) (hsp : I fa 2 = nI s) (hp : post (some (.int (k_arV I fa ba))) (z, k_arI I fa ba, P)) : xp G M_B_arrives 0 [(0, .ref 1), (1, .ref fa)] [] (z, I, P) 0 0 post := by
  obtain ⟨⟨tB, tns, trs, tF, tFb, tG, tGb⟩, ⟨b0, b1, b2, b3, b4, b5⟩, hns, hnd⟩ := id hb
  have hf : x_at 1 z fa ∧ x_ar 100 18 z ba ∧ P fa 0 = some ba := by
    rcases hfb with ⟨rfl, rfl⟩ | ⟨rfl, rfl⟩
    · exact ⟨tF, tFb, b4⟩
    · exact ⟨tG, tGb, b5⟩
  obtain ⟨hf1, hf2, hf3⟩ := hf
  have hfa : fa ≠ 1 := by omega
  have hs2 : x_up I 1 11 (I 1 11 + 1) fa 2 = nI s := by rw [x_up_ne (by omega)]; exact hsp
  have hs3 : (x_up I 1 11 (I 1 11 + 1) fa 2).toNatClampNeg = s := by rw [hs2, nI_clamp (by omega)]
  have hI : k_spoil (x_up I 1 11 (I 1 11 + 1)) fa ba s = k_arI I fa ba := by unfold k_arI; rw [hs3]
  unfold k_arV at hp
  refine xp_aload_n d_B_arrives_0 rfl ?_
  refine xp_dup d_B_arrives_1 rfl ?_
  refine xq_getI d_B_arrives_2 fg_B_118 (by assumption) ?_
  refine xp_iconst (v := 1) d_B_arrives_5 (by decide) ?_
  refine xp_iadd d_B_arrives_6 ?_
  refine xq_putI d_B_arrives_7 f_B_118 (by assumption) ?_
  refine xp_aload_n d_B_arrives_10 rfl ?_
  refine xq_V0v d_B_arrives_11 g_B_arrives_301 (by assumption) rfl rfl ?_
  refine c_F_spoilAsPlanned hf1 hf2 hf3 hs hs2 ?_
  rw [hI]
  refine ⟨rfl, ?_⟩
  refine xp_aload_n d_B_arrives_14 rfl ?_
  refine xq_V0r d_B_arrives_15 g_B_arrives_304 (by assumption) rfl rfl ?_
  refine c_F_destination hf1 hf2 hf3 ?_
  refine ⟨_, rfl, ?_⟩
  refine xp_istore_n d_B_arrives_18 (by decide) ?_
  refine xp_aload_n d_B_arrives_19 rfl ?_
  refine xq_V0r d_B_arrives_20 g_B_arrives_307 (by assumption) rfl rfl ?_
  refine c_F_isRight hf1 hf2 hf3 ?_
  refine ⟨_, rfl, ?_⟩
  refine xp_if_eq (tgt := 49) d_B_arrives_23 (by decide) (fun c23 => ?_) (fun c23 => ?_)
  · skip
    refine xp_iconst (v := 0) d_B_arrives_49 (by decide) ?_
    refine xp_ireturn d_B_arrives_50 rfl (x_bit (by first | exact Or.inl rfl | exact Or.inr rfl | assumption)).1 ?_
    simp only [if_pos c23] at hp
    exact hp
  · skip
    refine xp_iload_n d_B_arrives_26 rfl ?_
    refine xq_S1r d_B_arrives_27 g_B_arrives_38 rfl rfl ?_
    refine c_B_isNode ?_
    refine ⟨_, rfl, ?_⟩
    refine xp_if_eq (tgt := 49) d_B_arrives_30 (by decide) (fun c30 => ?_) (fun c30 => ?_)
    · skip
      refine xp_iconst (v := 0) d_B_arrives_49 (by decide) ?_
      refine xp_ireturn d_B_arrives_50 rfl (x_bit (by first | exact Or.inl rfl | exact Or.inr rfl | assumption)).1 ?_
      simp only [if_neg c23, if_pos c30] at hp
      exact hp
    · skip
      obtain ⟨j, hj, hj2⟩ := k_node_ix c30
      have hN := (hnd j (by omega)).1.1
      have hk : k_nd (k_arI I fa ba ba 3) = 8 + 10 * j := by rw [hj2]; exact k_nd_nI hj
      simp only [hk] at hp
      refine xp_aload_n d_B_arrives_33 rfl ?_
      refine xq_getR d_B_arrives_34 fg_B_11 (by assumption) (by assumption) ?_
      refine xp_iload_n d_B_arrives_37 rfl ?_
      refine xq_aaload d_B_arrives_38 (by assumption) (by decide) hj2 (by omega) (by decide) (hns j (by omega)) ?_
      refine xq_getI d_B_arrives_39 fg_B_42 (by assumption) ?_
      refine xp_if_eq (tgt := 49) d_B_arrives_42 (by decide) (fun c42 => ?_) (fun c42 => ?_)
      · skip
        refine xp_iconst (v := 0) d_B_arrives_49 (by decide) ?_
        refine xp_ireturn d_B_arrives_50 rfl (x_bit (by first | exact Or.inl rfl | exact Or.inr rfl | assumption)).1 ?_
        simp only [if_neg c23, if_neg c30, if_pos c42] at hp
        exact hp
      · skip
        refine xp_iconst (v := 1) d_B_arrives_45 (by decide) ?_
        refine xp_goto (tgt := 50) d_B_arrives_46 (by decide) ?_
        refine xp_ireturn d_B_arrives_50 rfl (x_bit (by first | exact Or.inl rfl | exact Or.inr rfl | assumption)).1 ?_
        simp only [if_neg c23, if_neg c30, if_neg c42] at hp
        exact hp
end part86
