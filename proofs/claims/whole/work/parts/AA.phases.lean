/-! the model's step -/
def s_jn1 (J : xI) (p : Int32) (s : Nat) : xI := s_caJ J 0 s 1 p (J 68 32) 0
def s_jn2 (J : xI) (p : Int32) (s : Nat) : xI := s_caJ (s_jn1 J p s) 1 s 2 (s_jn1 J p s 68 32) p 0
def s_join (J : xI) (p : Int32) (s h : Nat) : xI := if s_caV J 0 s 1 p (J 68 32) 0 = 0 then s_jn1 J p s else if s_caV (s_jn1 J p s) 1 s 2 (s_jn1 J p s 68 32) p 0 = 0 then s_jn2 J p s else x_up (x_up (s_jn2 J p s) 70 h p) 71 h (x_up (s_jn2 J p s) 70 h p 68 32)
def s_p1 (J : xI) (s h : Nat) : xI := s_caJ J 0 s 0 (J 70 h) (nI h) 0
def s_p2 (J : xI) (s h : Nat) : xI := x_up (s_p1 J s h) 68 32 (s_p1 J s h 70 h)
def s_p3 (J : xI) (s h nx : Nat) : xI := x_up (s_p2 J s h) 72 nx (s_p2 J s h 72 nx + 1)
def s_p4 (J : xI) (s h nx : Nat) : xI := x_up (s_p3 J s h nx) 73 nx (s_p3 J s h nx 73 nx + 1)
abbrev s_p5 (J : xI) (s h : Nat) : xI := x_up (s_p1 J s h) 68 35 (s_p1 J s h 68 35 + 1)
def s_pass (J : xI) (s h : Nat) : xI := if s_caV J 0 s 0 (J 70 h) (nI h) 0 = 0 then (if s_p5 J s h 68 35 = 2 then x_up (x_up (x_up (s_p5 J s h) 68 33 3) 71 h (x_up (s_p5 J s h) 68 33 3 70 h)) 70 h (nI h) else s_p5 J s h) else s_tu (s_p4 J s h (k_tn (J 70 h)))
def s_pp (J : xI) (h : Nat) : Int32 := if s_beh (J 71 h) = J 70 h then s_beh (nI h) else s_beh (J 71 h)
def s_po2 (J : xI) (s h : Nat) : xI := s_join (x_up J 71 h (s_pp J h)) (s_pp J h) s h
def s_po1 (J : xI) (s h : Nat) : xI := if s_pp J h = J 70 h then s_pass (s_tp J) s h else if s_po2 J s h 70 h = nI h then s_tu (s_po2 J s h) else s_tp (s_po2 J s h)
def s_poll (J : xI) (s h : Nat) : xI := s_po1 (x_up J 72 h 0) s h
def s_se2 (J : xI) (s h : Nat) : xI := s_join (x_up J 71 h (s_beh (J 71 h))) (s_beh (J 71 h)) s h
def s_sear (J : xI) (s h : Nat) : xI := if s_beh (J 71 h) = nI h then s_tu J else if s_se2 J s h 70 h = s_beh (J 71 h) then s_tp (s_se2 J s h) else s_se2 J s h
def s_utl (J : xI) (s h : Nat) : xI := if 3 ≤ J 72 h then s_poll (x_up J 68 33 1) s h else if J 70 h = J 68 32 then s_poll (x_up J 68 33 1) s h else s_pass (s_tp J) s h
def s_u1 (J : xI) : xI := x_up J 68 34 (J 68 34 + 1)
def s_use (J : xI) (s h m made : Nat) : xI := if J 68 34 = 2 then s_utl J s h else match s_dueO J (nI h) m with
  | some q => s_tell (s_u1 J) q 0 s
  | none => match s_firO J (nI h) made with
    | some r => s_ask (s_u1 J) r 0 s m
    | none => s_utl J s h
def s_lh (J : xI) (m : Nat) : xI := x_up (x_up (x_up (x_up (x_up J 68 32 (nI m)) 70 m (nI m)) 71 m (nI m)) 68 33 3) 68 36 0
def s_li (J : xI) : Nat → Nat → xI
  | 0, _ => J
  | q + 1, m => if J 69 m = 0 then s_li J q (m + 1) else if J 68 36 < 4 + 2 * nI m then J else s_lh J m
def s_lis (J : xI) : xI := s_li (x_up J 68 36 (J 68 36 + 1)) 6 0
def s_er (J : xI) (n : Nat) : Int32 := J 75 n - J 74 n
def s_c1x (J : xI) (n : Nat) : xI := x_up J 78 n (s_held (J 78 n + s_er J n) 10000)
def s_c2x (J : xI) (n : Nat) : xI := x_up (x_up (s_c1x J n) 79 (17 * n + 15) (s_held (s_quo (s_c1x J n 76 n * s_er J n + s_c1x J n 77 n * s_c1x J n 78 n) 16) 1000)) 80 (17 * n + 15) 1
def s_ctl (J : xI) (n : Nat) : xI := if J 69 n = 0 then J else if J 76 n = 0 then (if J 77 n = 0 then J else s_c2x J n) else s_c2x J n
def s_seA (J : xI) : Nat → xI
  | 0 => J
  | n + 1 => s_ctl (s_seA J n) n
def s_far (v w : Int32) : Int32 := if 0 ≤ lg_cmp (v.toInt64 - w.toInt64) 10 then 1 else if 0 < lg_cmp (v.toInt64 - w.toInt64) (-10) then 0 else 1
def s_dq (J : xI) (q : Nat) : xI := if J 69 (k_tn (J 90 q)) = 0 then J else x_up J 94 q (s_far (s_val J (J 90 q) (J 92 q)) (J 93 q))
def s_seB (J : xI) : Nat → xI
  | 0 => J
  | q + 1 => s_dq (s_seB J q) q
def s_set (J : xI) (m : Nat) : xI := s_seB (s_seA J 6) m
theorem s_ctl_ne {J : xI} {n a j : Nat} (h : a ≠ 78 ∧ a ≠ 79 ∧ a ≠ 80) : s_ctl J n a j = J a j := by
  have e : s_c2x J n a j = J a j := by
    unfold s_c2x s_c1x
    rw [x_up_ne (by omega), x_up_ne (by omega), x_up_ne (by omega)]
  unfold s_ctl
  by_cases c1 : J 69 n = 0
  · rw [if_pos c1]
  rw [if_neg c1]
  by_cases c2 : J 76 n = 0
  · rw [if_pos c2]
    by_cases c3 : J 77 n = 0
    · rw [if_pos c3]
    · rw [if_neg c3]
      exact e
  · rw [if_neg c2]
    exact e
theorem s_seA_ne {J : xI} {a j : Nat} (h : a ≠ 78 ∧ a ≠ 79 ∧ a ≠ 80) : ∀ n, s_seA J n a j = J a j
  | 0 => rfl
  | n + 1 => by
    show s_ctl (s_seA J n) n a j = _
    rw [s_ctl_ne h, s_seA_ne h n]
theorem s_seB_ne {J : xI} {a j : Nat} (h : a ≠ 94) : ∀ q, s_seB J q a j = J a j
  | 0 => rfl
  | q + 1 => by
    show s_dq (s_seB J q) q a j = _
    unfold s_dq
    by_cases c : s_seB J q 69 (k_tn (s_seB J q 90 q)) = 0
    · rw [if_pos c, s_seB_ne h q]
    · rw [if_neg c, x_up_ne (by omega), s_seB_ne h q]
theorem s_far_01 (v w : Int32) : s_far v w = 0 ∨ s_far v w = 1 := by
  unfold s_far
  by_cases c1 : 0 ≤ lg_cmp (v.toInt64 - w.toInt64) 10
  · exact Or.inr (if_pos c1)
  rw [if_neg c1]
  by_cases c2 : 0 < lg_cmp (v.toInt64 - w.toInt64) (-10)
  · exact Or.inl (if_pos c2)
  · exact Or.inr (if_neg c2)
theorem s_tp_ne {J : xI} {a j : Nat} (h : a ≠ 68 ∨ (j ≠ 33 ∧ j ≠ 35)) : s_tp J a j = J a j := by
  unfold s_tp
  rw [x_up_ne (by omega), x_up_ne (by omega)]
theorem s_tu_ne {J : xI} {a j : Nat} (h : a ≠ 68 ∨ (j ≠ 33 ∧ j ≠ 34)) : s_tu J a j = J a j := by
  unfold s_tu
  rw [x_up_ne (by omega), x_up_ne (by omega)]
section partAA
variable {G : xG} {z : Nat} {I J : xI} {P : xP} {post : Option Value → xH → Prop} {h0 : xH}
set_option maxRecDepth 100000 in
set_option maxHeartbeats 1000000 in
theorem c_M_join (hm : x_mdl z P) {p : Int32} {s h : Nat} (hh : h < 6) (eh : J 68 32 = nI h) (ef : J 68 39 = nI 0) (hs : s < 18) (es : J 68 43 = nI s) (hp : post none (z, x_mg I (s_join J p s h), P)) : xp G M_M_join 0 [(0, .ref 68), (1, .int p)] [] (z, x_mg I J, P) 0 0 post := by
  obtain ⟨hz, m_powered, m_next, m_polled, m_count, m_tokens, m_input, m_setpoint, m_gainP, m_gainI, m_sum, m_level, m_taken, m_from, m_target, m_what, m_given, m_state, m_tries, m_got, m_error, m_reply, m_kept, m_whose, m_object, m_seen, m_due, m_notedNode, m_notedObject, m_notedValue, m_notices, m_bytes, m_length⟩ := id hm
  unfold s_join at hp
  refine xp_aload_n d_M_join_0 rfl ?_
  refine xp_iconst (v := 1) d_M_join_1 (by decide) ?_
  refine xp_iload_n d_M_join_2 rfl ?_
  refine xp_aload_n d_M_join_3 rfl ?_
  refine xm_getI d_M_join_4 fg_M_107 hz ?_
  refine xp_iconst (v := 0) d_M_join_7 (by decide) ?_
  refine xq_V4r d_M_join_8 g_M_join_173 (x_mA hz) rfl rfl ?_
  refine c_M_carry hm (Nat.zero_le 1) ef hs es ?_
  change ∃ w, _ = some w ∧ xp G M_M_join _ _ _ (z, x_mg I (s_jn1 J p s), P) _ _ _
  refine ⟨_, rfl, ?_⟩
  refine xp_if_eq (tgt := 51) d_M_join_11 (by decide) (fun c11 => ?_) (fun c11 => ?_)
  · skip
    refine xp_return_ d_M_join_51 rfl ?_
    simp only [if_pos c11] at hp
    exact hp
  · skip
    refine xp_aload_n d_M_join_14 rfl ?_
    refine xp_iconst (v := 2) d_M_join_15 (by decide) ?_
    refine xp_aload_n d_M_join_16 rfl ?_
    refine xm_getI d_M_join_17 fg_M_107 hz ?_
    refine xp_iload_n d_M_join_20 rfl ?_
    refine xp_iconst (v := 0) d_M_join_21 (by decide) ?_
    refine xq_V4r d_M_join_22 g_M_join_173 (x_mA hz) rfl rfl ?_
    refine c_M_carry hm (Nat.le_refl 1) s_caJ_39 hs ((s_caJ_ne (by omega) (by omega) (by omega)).trans es) ?_
    change ∃ w, _ = some w ∧ xp G M_M_join _ _ _ (z, x_mg I (s_jn2 J p s), P) _ _ _
    refine ⟨_, rfl, ?_⟩
    refine xp_if_eq (tgt := 51) d_M_join_25 (by decide) (fun c25 => ?_) (fun c25 => ?_)
    · skip
      refine xp_return_ d_M_join_51 rfl ?_
      simp only [if_neg c11, if_pos c25] at hp
      exact hp
    · skip
      have e2 : s_jn2 J p s 68 32 = nI h := (s_caJ_ne (by omega) (by omega) (by omega)).trans ((s_caJ_ne (by omega) (by omega) (by omega)).trans eh)
      refine xp_aload_n d_M_join_28 rfl ?_
      refine xm_getR d_M_join_29 fg_M_13 hz (by assumption) ?_
      refine xp_aload_n d_M_join_32 rfl ?_
      refine xm_getI d_M_join_33 fg_M_107 hz ?_
      refine xp_iload_n d_M_join_36 rfl ?_
      refine xm_iastore d_M_join_37 rfl (by decide) hz e2 (by omega) (by decide) ?_
      refine xp_aload_n d_M_join_38 rfl ?_
      refine xm_getR d_M_join_39 fg_M_17 hz (by assumption) ?_
      refine xp_aload_n d_M_join_42 rfl ?_
      refine xm_getI d_M_join_43 fg_M_107 hz ?_
      refine xp_aload_n d_M_join_46 rfl ?_
      refine xm_getI d_M_join_47 fg_M_107 hz ?_
      refine xm_iastore d_M_join_50 rfl (by decide) hz (show x_up (s_jn2 J p s) 70 h p 68 32 = nI h by rw [x_up_ne (by omega)]; exact e2) (by omega) (by decide) ?_
      refine xp_return_ d_M_join_51 rfl ?_
      simp only [if_neg c11, if_neg c25] at hp
      exact hp
set_option maxRecDepth 100000 in
set_option maxHeartbeats 1000000 in
theorem c_M_pass (hm : x_mdl z P) {s h : Nat} (hh : h < 6) (eh : J 68 32 = nI h) (ef : J 68 39 = nI 0) (hs : s < 18) (es : J 68 43 = nI s) {nx : Nat} (hnx : nx < 6) (enx : J 70 h = nI nx) (hp : post none (z, x_mg I (s_pass J s h), P)) : xp G M_M_pass 0 [(0, .ref 68)] [] (z, x_mg I J, P) 0 0 post := by
  obtain ⟨hz, m_powered, m_next, m_polled, m_count, m_tokens, m_input, m_setpoint, m_gainP, m_gainI, m_sum, m_level, m_taken, m_from, m_target, m_what, m_given, m_state, m_tries, m_got, m_error, m_reply, m_kept, m_whose, m_object, m_seen, m_due, m_notedNode, m_notedObject, m_notedValue, m_notices, m_bytes, m_length⟩ := id hm
  unfold s_pass at hp
  refine xp_aload_n d_M_pass_0 rfl ?_
  refine xm_getI d_M_pass_1 fg_M_107 hz ?_
  rw [eh]
  refine xp_istore_n d_M_pass_4 (by decide) ?_
  refine xp_aload_n d_M_pass_5 rfl ?_
  refine xp_iconst (v := 0) d_M_pass_6 (by decide) ?_
  refine xp_aload_n d_M_pass_7 rfl ?_
  refine xm_getR d_M_pass_8 fg_M_13 hz (by assumption) ?_
  refine xp_iload_n d_M_pass_11 rfl ?_
  refine xm_iaload d_M_pass_12 rfl (by decide) hz rfl (by omega) (by decide) ?_
  refine xp_iload_n d_M_pass_13 rfl ?_
  refine xp_iconst (v := 0) d_M_pass_14 (by decide) ?_
  refine xq_V4r d_M_pass_15 g_M_pass_173 (x_mA hz) rfl rfl ?_
  refine c_M_carry hm (Nat.zero_le 1) ef hs es ?_
  change ∃ w, _ = some w ∧ xp G M_M_pass _ _ _ (z, x_mg I (s_p1 J s h), P) _ _ _
  refine ⟨_, rfl, ?_⟩
  refine xp_if_eq (tgt := 62) d_M_pass_18 (by decide) (fun c18 => ?_) (fun c18 => ?_)
  · skip
    refine xp_aload_n d_M_pass_62 rfl ?_
    refine xp_dup d_M_pass_63 rfl ?_
    refine xm_getI d_M_pass_64 fg_M_208 hz ?_
    refine xp_iconst (v := 1) d_M_pass_67 (by decide) ?_
    refine xp_iadd d_M_pass_68 ?_
    refine xm_putI d_M_pass_69 f_M_208 hz ?_
    refine xp_aload_n d_M_pass_72 rfl ?_
    refine xm_getI d_M_pass_73 fg_M_208 hz ?_
    refine xp_iconst (v := 2) d_M_pass_76 (by decide) ?_
    refine xp_icmp_ne (tgt := 104) d_M_pass_77 (by decide) (fun c77 => ?_) (fun c77 => ?_)
    · skip
      refine xp_return_ d_M_pass_104 rfl ?_
      simp only [if_pos c18, if_neg c77] at hp
      exact hp
    · skip
      refine xp_aload_n d_M_pass_80 rfl ?_
      refine xp_iconst (v := 3) d_M_pass_81 (by decide) ?_
      refine xm_putI d_M_pass_82 f_M_190 hz ?_
      refine xp_aload_n d_M_pass_85 rfl ?_
      refine xm_getR d_M_pass_86 fg_M_17 hz (by assumption) ?_
      refine xp_iload_n d_M_pass_89 rfl ?_
      refine xp_aload_n d_M_pass_90 rfl ?_
      refine xm_getR d_M_pass_91 fg_M_13 hz (by assumption) ?_
      refine xp_iload_n d_M_pass_94 rfl ?_
      refine xm_iaload d_M_pass_95 rfl (by decide) hz rfl (by omega) (by decide) ?_
      refine xm_iastore d_M_pass_96 rfl (by decide) hz rfl (by omega) (by decide) ?_
      refine xp_aload_n d_M_pass_97 rfl ?_
      refine xm_getR d_M_pass_98 fg_M_13 hz (by assumption) ?_
      refine xp_iload_n d_M_pass_101 rfl ?_
      refine xp_iload_n d_M_pass_102 rfl ?_
      refine xm_iastore d_M_pass_103 rfl (by decide) hz rfl (by omega) (by decide) ?_
      refine xp_return_ d_M_pass_104 rfl ?_
      simp only [if_pos c18, if_pos c77] at hp
      exact hp
  · skip
    have e7 : s_p1 J s h 70 h = nI nx := (s_caJ_ne (by omega) (by omega) (by omega)).trans enx
    have ek : k_tn (J 70 h) = nx := by rw [enx]; exact k_tn_nI (by omega)
    have e8 : s_p2 J s h 68 32 = nI nx := (x_up_eq ⟨rfl, rfl⟩).trans e7
    refine xp_aload_n d_M_pass_21 rfl ?_
    refine xp_aload_n d_M_pass_22 rfl ?_
    refine xm_getR d_M_pass_23 fg_M_13 hz (by assumption) ?_
    refine xp_iload_n d_M_pass_26 rfl ?_
    refine xm_iaload d_M_pass_27 rfl (by decide) hz rfl (by omega) (by decide) ?_
    refine xm_putI d_M_pass_28 f_M_107 hz ?_
    refine xp_aload_n d_M_pass_31 rfl ?_
    refine xm_getR d_M_pass_32 fg_M_20 hz (by assumption) ?_
    refine xp_aload_n d_M_pass_35 rfl ?_
    refine xm_getI d_M_pass_36 fg_M_107 hz ?_
    refine xp_dup2 d_M_pass_39 rfl rfl ?_
    refine xm_iaload d_M_pass_40 rfl (by decide) hz e8 (by omega) (by decide) ?_
    refine xp_iconst (v := 1) d_M_pass_41 (by decide) ?_
    refine xp_iadd d_M_pass_42 ?_
    refine xm_iastore d_M_pass_43 rfl (by decide) hz e8 (by omega) (by decide) ?_
    refine xp_aload_n d_M_pass_44 rfl ?_
    refine xm_getR d_M_pass_45 fg_M_23 hz (by assumption) ?_
    refine xp_aload_n d_M_pass_48 rfl ?_
    refine xm_getI d_M_pass_49 fg_M_107 hz ?_
    refine xp_dup2 d_M_pass_52 rfl rfl ?_
    refine xm_iaload d_M_pass_53 rfl (by decide) hz ((x_up_ne (by omega)).trans e8) (by omega) (by decide) ?_
    refine xp_iconst (v := 1) d_M_pass_54 (by decide) ?_
    refine xp_iadd d_M_pass_55 ?_
    refine xm_iastore d_M_pass_56 rfl (by decide) hz ((x_up_ne (by omega)).trans e8) (by omega) (by decide) ?_
    refine xp_aload_n d_M_pass_57 rfl ?_
    refine xq_V0v d_M_pass_58 g_M_pass_217 (x_mA hz) rfl rfl ?_
    refine c_M_toUse hm ?_
    refine ⟨rfl, ?_⟩
    refine xp_return_ d_M_pass_61 rfl ?_
    simp only [if_neg c18, ek] at hp
    exact hp
set_option maxRecDepth 100000 in
set_option maxHeartbeats 1000000 in
theorem l_M_poll_12 (hm : x_mdl z P) {s h : Nat} (hh : h < 6) (eh : J 68 32 = nI h) (ef : J 68 39 = nI 0) (hs : s < 18) (es : J 68 43 = nI s) {nx : Nat} (hnx : nx < 6) (enx : J 70 h = nI nx) (hp : post none (z, x_mg I (s_po1 J s h), P)) : xp G M_M_poll 12 [(0, .ref 68), (1, .int (nI h))] [] (z, x_mg I J, P) 0 0 post := by
  obtain ⟨hz, m_powered, m_next, m_polled, m_count, m_tokens, m_input, m_setpoint, m_gainP, m_gainI, m_sum, m_level, m_taken, m_from, m_target, m_what, m_given, m_state, m_tries, m_got, m_error, m_reply, m_kept, m_whose, m_object, m_seen, m_due, m_notedNode, m_notedObject, m_notedValue, m_notices, m_bytes, m_length⟩ := id hm
  unfold s_po1 at hp
  refine xp_aload_n d_M_poll_12 rfl ?_
  refine xm_getR d_M_poll_13 fg_M_17 hz (by assumption) ?_
  refine xp_iload_n d_M_poll_16 rfl ?_
  refine xm_iaload d_M_poll_17 rfl (by decide) hz rfl (by omega) (by decide) ?_
  refine xq_S1r d_M_poll_18 g_M_poll_211 rfl rfl ?_
  refine c_M_behind ?_
  refine ⟨_, rfl, ?_⟩
  refine xp_istore_n d_M_poll_21 (by decide) ?_
  refine xp_iload_n d_M_poll_22 rfl ?_
  refine xp_aload_n d_M_poll_23 rfl ?_
  refine xm_getR d_M_poll_24 fg_M_13 hz (by assumption) ?_
  refine xp_iload_n d_M_poll_27 rfl ?_
  refine xm_iaload d_M_poll_28 rfl (by decide) hz rfl (by omega) (by decide) ?_
  refine xp_icmp_ne (tgt := 39) d_M_poll_29 (by decide) (fun c29 => ?_) (fun c29 => ?_)
  · skip
    refine xp_iload_n d_M_poll_39 rfl ?_
    refine xp_istore_n d_M_poll_40 (by decide) ?_
    have ep : s_pp J h = s_beh (J 71 h) := by unfold s_pp; simp only [if_neg c29]
    refine xp_loc (lv' := [(0, .ref 68), (1, .int (nI h)), (2, .int (s_pp J h))]) ?_ ?_
    · refine ⟨rfl, rfl, ?_, trivial⟩
      rw [ep]
      rfl
    · clear ep
      refine xp_iload_n d_M_poll_41 rfl ?_
      refine xp_aload_n d_M_poll_42 rfl ?_
      refine xm_getR d_M_poll_43 fg_M_13 hz (by assumption) ?_
      refine xp_iload_n d_M_poll_46 rfl ?_
      refine xm_iaload d_M_poll_47 rfl (by decide) hz rfl (by omega) (by decide) ?_
      refine xp_icmp_ne (tgt := 60) d_M_poll_48 (by decide) (fun c48 => ?_) (fun c48 => ?_)
      · skip
        refine xp_aload_n d_M_poll_60 rfl ?_
        refine xm_getR d_M_poll_61 fg_M_17 hz (by assumption) ?_
        refine xp_iload_n d_M_poll_64 rfl ?_
        refine xp_iload_n d_M_poll_65 rfl ?_
        refine xm_iastore d_M_poll_66 rfl (by decide) hz rfl (by omega) (by decide) ?_
        refine xp_aload_n d_M_poll_67 rfl ?_
        refine xp_iload_n d_M_poll_68 rfl ?_
        refine xq_V1v d_M_poll_69 g_M_poll_214 (x_mA hz) rfl rfl ?_
        refine c_M_join hm hh (by rw [x_up_ne (by omega)]; exact eh) (by rw [x_up_ne (by omega)]; exact ef) hs (by rw [x_up_ne (by omega)]; exact es) ?_
        change _ ∧ xp G M_M_poll _ _ _ (z, x_mg I (s_po2 J s h), P) _ _ _
        refine ⟨rfl, ?_⟩
        refine xp_aload_n d_M_poll_72 rfl ?_
        refine xm_getR d_M_poll_73 fg_M_13 hz (by assumption) ?_
        refine xp_iload_n d_M_poll_76 rfl ?_
        refine xm_iaload d_M_poll_77 rfl (by decide) hz rfl (by omega) (by decide) ?_
        refine xp_iload_n d_M_poll_78 rfl ?_
        refine xp_icmp_ne (tgt := 89) d_M_poll_79 (by decide) (fun c79 => ?_) (fun c79 => ?_)
        · skip
          refine xp_aload_n d_M_poll_89 rfl ?_
          refine xq_V0v d_M_poll_90 g_M_poll_196 (x_mA hz) rfl rfl ?_
          refine c_M_toPass hm ?_
          refine ⟨rfl, ?_⟩
          refine xp_return_ d_M_poll_93 rfl ?_
          simp only [if_neg c48, if_neg c79] at hp
          exact hp
        · skip
          refine xp_aload_n d_M_poll_82 rfl ?_
          refine xq_V0v d_M_poll_83 g_M_poll_217 (x_mA hz) rfl rfl ?_
          refine c_M_toUse hm ?_
          refine ⟨rfl, ?_⟩
          refine xp_goto (tgt := 93) d_M_poll_86 (by decide) ?_
          refine xp_return_ d_M_poll_93 rfl ?_
          simp only [if_neg c48, if_pos c79] at hp
          exact hp
      · skip
        refine xp_aload_n d_M_poll_51 rfl ?_
        refine xq_V0v d_M_poll_52 g_M_poll_196 (x_mA hz) rfl rfl ?_
        refine c_M_toPass hm ?_
        refine ⟨rfl, ?_⟩
        refine xp_aload_n d_M_poll_55 rfl ?_
        refine xq_V0v d_M_poll_56 g_M_poll_199 (x_mA hz) rfl rfl ?_
        refine c_M_pass hm hh (by rw [s_tp_ne (by omega)]; exact eh) (by rw [s_tp_ne (by omega)]; exact ef) hs (by rw [s_tp_ne (by omega)]; exact es) hnx (by rw [s_tp_ne (by omega)]; exact enx) ?_
        refine ⟨rfl, ?_⟩
        refine xp_return_ d_M_poll_59 rfl ?_
        simp only [if_pos c48] at hp
        exact hp
  · skip
    refine xp_iload_n d_M_poll_32 rfl ?_
    refine xq_S1r d_M_poll_33 g_M_poll_211 rfl rfl ?_
    refine c_M_behind ?_
    refine ⟨_, rfl, ?_⟩
    refine xp_goto (tgt := 40) d_M_poll_36 (by decide) ?_
    refine xp_istore_n d_M_poll_40 (by decide) ?_
    have ep : s_pp J h = s_beh (nI h) := by unfold s_pp; simp only [if_pos c29]
    refine xp_loc (lv' := [(0, .ref 68), (1, .int (nI h)), (2, .int (s_pp J h))]) ?_ ?_
    · refine ⟨rfl, rfl, ?_, trivial⟩
      rw [ep]
      rfl
    · clear ep
      refine xp_iload_n d_M_poll_41 rfl ?_
      refine xp_aload_n d_M_poll_42 rfl ?_
      refine xm_getR d_M_poll_43 fg_M_13 hz (by assumption) ?_
      refine xp_iload_n d_M_poll_46 rfl ?_
      refine xm_iaload d_M_poll_47 rfl (by decide) hz rfl (by omega) (by decide) ?_
      refine xp_icmp_ne (tgt := 60) d_M_poll_48 (by decide) (fun c48 => ?_) (fun c48 => ?_)
      · skip
        refine xp_aload_n d_M_poll_60 rfl ?_
        refine xm_getR d_M_poll_61 fg_M_17 hz (by assumption) ?_
        refine xp_iload_n d_M_poll_64 rfl ?_
        refine xp_iload_n d_M_poll_65 rfl ?_
        refine xm_iastore d_M_poll_66 rfl (by decide) hz rfl (by omega) (by decide) ?_
        refine xp_aload_n d_M_poll_67 rfl ?_
        refine xp_iload_n d_M_poll_68 rfl ?_
        refine xq_V1v d_M_poll_69 g_M_poll_214 (x_mA hz) rfl rfl ?_
        refine c_M_join hm hh (by rw [x_up_ne (by omega)]; exact eh) (by rw [x_up_ne (by omega)]; exact ef) hs (by rw [x_up_ne (by omega)]; exact es) ?_
        change _ ∧ xp G M_M_poll _ _ _ (z, x_mg I (s_po2 J s h), P) _ _ _
        refine ⟨rfl, ?_⟩
        refine xp_aload_n d_M_poll_72 rfl ?_
        refine xm_getR d_M_poll_73 fg_M_13 hz (by assumption) ?_
        refine xp_iload_n d_M_poll_76 rfl ?_
        refine xm_iaload d_M_poll_77 rfl (by decide) hz rfl (by omega) (by decide) ?_
        refine xp_iload_n d_M_poll_78 rfl ?_
        refine xp_icmp_ne (tgt := 89) d_M_poll_79 (by decide) (fun c79 => ?_) (fun c79 => ?_)
        · skip
          refine xp_aload_n d_M_poll_89 rfl ?_
          refine xq_V0v d_M_poll_90 g_M_poll_196 (x_mA hz) rfl rfl ?_
          refine c_M_toPass hm ?_
          refine ⟨rfl, ?_⟩
          refine xp_return_ d_M_poll_93 rfl ?_
          simp only [if_neg c48, if_neg c79] at hp
          exact hp
        · skip
          refine xp_aload_n d_M_poll_82 rfl ?_
          refine xq_V0v d_M_poll_83 g_M_poll_217 (x_mA hz) rfl rfl ?_
          refine c_M_toUse hm ?_
          refine ⟨rfl, ?_⟩
          refine xp_goto (tgt := 93) d_M_poll_86 (by decide) ?_
          refine xp_return_ d_M_poll_93 rfl ?_
          simp only [if_neg c48, if_pos c79] at hp
          exact hp
      · skip
        refine xp_aload_n d_M_poll_51 rfl ?_
        refine xq_V0v d_M_poll_52 g_M_poll_196 (x_mA hz) rfl rfl ?_
        refine c_M_toPass hm ?_
        refine ⟨rfl, ?_⟩
        refine xp_aload_n d_M_poll_55 rfl ?_
        refine xq_V0v d_M_poll_56 g_M_poll_199 (x_mA hz) rfl rfl ?_
        refine c_M_pass hm hh (by rw [s_tp_ne (by omega)]; exact eh) (by rw [s_tp_ne (by omega)]; exact ef) hs (by rw [s_tp_ne (by omega)]; exact es) hnx (by rw [s_tp_ne (by omega)]; exact enx) ?_
        refine ⟨rfl, ?_⟩
        refine xp_return_ d_M_poll_59 rfl ?_
        simp only [if_pos c48] at hp
        exact hp
set_option maxRecDepth 100000 in
set_option maxHeartbeats 1000000 in
theorem c_M_poll (hm : x_mdl z P) {s h : Nat} (hh : h < 6) (eh : J 68 32 = nI h) (ef : J 68 39 = nI 0) (hs : s < 18) (es : J 68 43 = nI s) {nx : Nat} (hnx : nx < 6) (enx : J 70 h = nI nx) (hp : post none (z, x_mg I (s_poll J s h), P)) : xp G M_M_poll 0 [(0, .ref 68)] [] (z, x_mg I J, P) 0 0 post := by
  obtain ⟨hz, m_powered, m_next, m_polled, m_count, m_tokens, m_input, m_setpoint, m_gainP, m_gainI, m_sum, m_level, m_taken, m_from, m_target, m_what, m_given, m_state, m_tries, m_got, m_error, m_reply, m_kept, m_whose, m_object, m_seen, m_due, m_notedNode, m_notedObject, m_notedValue, m_notices, m_bytes, m_length⟩ := id hm
  refine xp_aload_n d_M_poll_0 rfl ?_
  refine xm_getI d_M_poll_1 fg_M_107 hz ?_
  rw [eh]
  refine xp_istore_n d_M_poll_4 (by decide) ?_
  refine xp_aload_n d_M_poll_5 rfl ?_
  refine xm_getR d_M_poll_6 fg_M_20 hz (by assumption) ?_
  refine xp_iload_n d_M_poll_9 rfl ?_
  refine xp_iconst (v := 0) d_M_poll_10 (by decide) ?_
  refine xm_iastore d_M_poll_11 rfl (by decide) hz rfl (by omega) (by decide) ?_
  refine xp_loc (lv' := [(0, .ref 68), (1, .int (nI h))]) ⟨rfl, rfl, trivial⟩ ?_
  exact l_M_poll_12 hm hh (by rw [x_up_ne (by omega)]; exact eh) (by rw [x_up_ne (by omega)]; exact ef) hs (by rw [x_up_ne (by omega)]; exact es) hnx (by rw [x_up_ne (by omega)]; exact enx) hp
set_option maxRecDepth 100000 in
set_option maxHeartbeats 1000000 in
theorem c_M_search (hm : x_mdl z P) {s h : Nat} (hh : h < 6) (eh : J 68 32 = nI h) (ef : J 68 39 = nI 0) (hs : s < 18) (es : J 68 43 = nI s) (hp : post none (z, x_mg I (s_sear J s h), P)) : xp G M_M_search 0 [(0, .ref 68)] [] (z, x_mg I J, P) 0 0 post := by
  obtain ⟨hz, m_powered, m_next, m_polled, m_count, m_tokens, m_input, m_setpoint, m_gainP, m_gainI, m_sum, m_level, m_taken, m_from, m_target, m_what, m_given, m_state, m_tries, m_got, m_error, m_reply, m_kept, m_whose, m_object, m_seen, m_due, m_notedNode, m_notedObject, m_notedValue, m_notices, m_bytes, m_length⟩ := id hm
  unfold s_sear at hp
  refine xp_aload_n d_M_search_0 rfl ?_
  refine xm_getI d_M_search_1 fg_M_107 hz ?_
  rw [eh]
  refine xp_istore_n d_M_search_4 (by decide) ?_
  refine xp_aload_n d_M_search_5 rfl ?_
  refine xm_getR d_M_search_6 fg_M_17 hz (by assumption) ?_
  refine xp_iload_n d_M_search_9 rfl ?_
  refine xm_iaload d_M_search_10 rfl (by decide) hz rfl (by omega) (by decide) ?_
  refine xq_S1r d_M_search_11 g_M_search_211 rfl rfl ?_
  refine c_M_behind ?_
  refine ⟨_, rfl, ?_⟩
  refine xp_istore_n d_M_search_14 (by decide) ?_
  refine xp_iload_n d_M_search_15 rfl ?_
  refine xp_iload_n d_M_search_16 rfl ?_
  refine xp_icmp_ne (tgt := 25) d_M_search_17 (by decide) (fun c17 => ?_) (fun c17 => ?_)
  · skip
    refine xp_aload_n d_M_search_25 rfl ?_
    refine xm_getR d_M_search_26 fg_M_17 hz (by assumption) ?_
    refine xp_iload_n d_M_search_29 rfl ?_
    refine xp_iload_n d_M_search_30 rfl ?_
    refine xm_iastore d_M_search_31 rfl (by decide) hz rfl (by omega) (by decide) ?_
    refine xp_aload_n d_M_search_32 rfl ?_
    refine xp_iload_n d_M_search_33 rfl ?_
    refine xq_V1v d_M_search_34 g_M_search_214 (x_mA hz) rfl rfl ?_
    refine c_M_join hm hh (by rw [x_up_ne (by omega)]; exact eh) (by rw [x_up_ne (by omega)]; exact ef) hs (by rw [x_up_ne (by omega)]; exact es) ?_
    change _ ∧ xp G M_M_search _ _ _ (z, x_mg I (s_se2 J s h), P) _ _ _
    refine ⟨rfl, ?_⟩
    refine xp_aload_n d_M_search_37 rfl ?_
    refine xm_getR d_M_search_38 fg_M_13 hz (by assumption) ?_
    refine xp_iload_n d_M_search_41 rfl ?_
    refine xm_iaload d_M_search_42 rfl (by decide) hz rfl (by omega) (by decide) ?_
    refine xp_iload_n d_M_search_43 rfl ?_
    refine xp_icmp_ne (tgt := 51) d_M_search_44 (by decide) (fun c44 => ?_) (fun c44 => ?_)
    · skip
      refine xp_return_ d_M_search_51 rfl ?_
      simp only [if_neg c17, if_neg c44] at hp
      exact hp
    · skip
      refine xp_aload_n d_M_search_47 rfl ?_
      refine xq_V0v d_M_search_48 g_M_search_196 (x_mA hz) rfl rfl ?_
      refine c_M_toPass hm ?_
      refine ⟨rfl, ?_⟩
      refine xp_return_ d_M_search_51 rfl ?_
      simp only [if_neg c17, if_pos c44] at hp
      exact hp
  · skip
    refine xp_aload_n d_M_search_20 rfl ?_
    refine xq_V0v d_M_search_21 g_M_search_217 (x_mA hz) rfl rfl ?_
    refine c_M_toUse hm ?_
    refine ⟨rfl, ?_⟩
    refine xp_return_ d_M_search_24 rfl ?_
    simp only [if_pos c17] at hp
    exact hp
set_option maxRecDepth 100000 in
set_option maxHeartbeats 1000000 in
theorem l_M_use_34 (hm : x_mdl z P) {s h : Nat} (hh : h < 6) (eh : J 68 32 = nI h) (ef : J 68 39 = nI 0) (hs : s < 18) (es : J 68 43 = nI s) {nx : Nat} (hnx : nx < 6) (enx : J 70 h = nI nx) (hp : post none (z, x_mg I (s_utl J s h), P)) : xp G M_M_use 34 [(0, .ref 68)] [] (z, x_mg I J, P) 0 0 post := by
  obtain ⟨hz, m_powered, m_next, m_polled, m_count, m_tokens, m_input, m_setpoint, m_gainP, m_gainI, m_sum, m_level, m_taken, m_from, m_target, m_what, m_given, m_state, m_tries, m_got, m_error, m_reply, m_kept, m_whose, m_object, m_seen, m_due, m_notedNode, m_notedObject, m_notedValue, m_notices, m_bytes, m_length⟩ := id hm
  unfold s_utl at hp
  refine xp_aload_n d_M_use_34 rfl ?_
  refine xm_getR d_M_use_35 fg_M_20 hz (by assumption) ?_
  refine xp_aload_n d_M_use_38 rfl ?_
  refine xm_getI d_M_use_39 fg_M_107 hz ?_
  refine xm_iaload d_M_use_42 rfl (by decide) hz eh (by omega) (by decide) ?_
  refine xp_iconst (v := 3) d_M_use_43 (by decide) ?_
  refine xp_icmp_ge (tgt := 63) d_M_use_44 (by decide) (fun c44 => ?_) (fun c44 => ?_)
  · skip
    refine xp_aload_n d_M_use_63 rfl ?_
    refine xp_iconst (v := 1) d_M_use_64 (by decide) ?_
    refine xm_putI d_M_use_65 f_M_190 hz ?_
    refine xp_aload_n d_M_use_68 rfl ?_
    refine xq_V0v d_M_use_69 g_M_use_193 (x_mA hz) rfl rfl ?_
    refine c_M_poll hm hh (by rw [x_up_ne (by omega)]; exact eh) (by rw [x_up_ne (by omega)]; exact ef) hs (by rw [x_up_ne (by omega)]; exact es) hnx (by rw [x_up_ne (by omega)]; exact enx) ?_
    refine ⟨rfl, ?_⟩
    refine xp_goto (tgt := 83) d_M_use_72 (by decide) ?_
    refine xp_return_ d_M_use_83 rfl ?_
    simp only [if_pos c44] at hp
    exact hp
  · skip
    refine xp_aload_n d_M_use_47 rfl ?_
    refine xm_getR d_M_use_48 fg_M_13 hz (by assumption) ?_
    refine xp_aload_n d_M_use_51 rfl ?_
    refine xm_getI d_M_use_52 fg_M_107 hz ?_
    refine xm_iaload d_M_use_55 rfl (by decide) hz eh (by omega) (by decide) ?_
    refine xp_aload_n d_M_use_56 rfl ?_
    refine xm_getI d_M_use_57 fg_M_107 hz ?_
    refine xp_icmp_ne (tgt := 75) d_M_use_60 (by decide) (fun c60 => ?_) (fun c60 => ?_)
    · skip
      refine xp_aload_n d_M_use_75 rfl ?_
      refine xq_V0v d_M_use_76 g_M_use_196 (x_mA hz) rfl rfl ?_
      refine c_M_toPass hm ?_
      refine ⟨rfl, ?_⟩
      refine xp_aload_n d_M_use_79 rfl ?_
      refine xq_V0v d_M_use_80 g_M_use_199 (x_mA hz) rfl rfl ?_
      refine c_M_pass hm hh (by rw [s_tp_ne (by omega)]; exact eh) (by rw [s_tp_ne (by omega)]; exact ef) hs (by rw [s_tp_ne (by omega)]; exact es) hnx (by rw [s_tp_ne (by omega)]; exact enx) ?_
      refine ⟨rfl, ?_⟩
      refine xp_return_ d_M_use_83 rfl ?_
      simp only [if_neg c44, if_neg c60] at hp
      exact hp
    · skip
      refine xp_aload_n d_M_use_63 rfl ?_
      refine xp_iconst (v := 1) d_M_use_64 (by decide) ?_
      refine xm_putI d_M_use_65 f_M_190 hz ?_
      refine xp_aload_n d_M_use_68 rfl ?_
      refine xq_V0v d_M_use_69 g_M_use_193 (x_mA hz) rfl rfl ?_
      refine c_M_poll hm hh (by rw [x_up_ne (by omega)]; exact eh) (by rw [x_up_ne (by omega)]; exact ef) hs (by rw [x_up_ne (by omega)]; exact es) hnx (by rw [x_up_ne (by omega)]; exact enx) ?_
      refine ⟨rfl, ?_⟩
      refine xp_goto (tgt := 83) d_M_use_72 (by decide) ?_
      refine xp_return_ d_M_use_83 rfl ?_
      simp only [if_neg c44, if_pos c60] at hp
      exact hp
set_option maxRecDepth 100000 in
set_option maxHeartbeats 1000000 in
theorem c_M_use (hm : x_mdl z P) {s h : Nat} (hh : h < 6) (eh : J 68 32 = nI h) (ef : J 68 39 = nI 0) (hs : s < 18) (es : J 68 43 = nI s) {nx : Nat} (hnx : nx < 6) (enx : J 70 h = nI nx) {m made : Nat} (em : J 68 22 = nI m) (hm6 : m ≤ 18) (ea : J 68 12 = nI made) (ha6 : made ≤ 60) (hw : ∀ q, q < m → ∃ w, w < 6 ∧ J 91 q = nI w) (hr : ∀ r, r < made → ∃ t, t < 6 ∧ J 82 r = nI t) (hroom : ∀ t, t < 6 → ¬ s_sof J (nI t) m = 3 → m < 18) (hp : post none (z, x_mg I (s_use J s h m made), P)) : xp G M_M_use 0 [(0, .ref 68)] [] (z, x_mg I J, P) 0 0 post := by
  obtain ⟨hz, m_powered, m_next, m_polled, m_count, m_tokens, m_input, m_setpoint, m_gainP, m_gainI, m_sum, m_level, m_taken, m_from, m_target, m_what, m_given, m_state, m_tries, m_got, m_error, m_reply, m_kept, m_whose, m_object, m_seen, m_due, m_notedNode, m_notedObject, m_notedValue, m_notices, m_bytes, m_length⟩ := id hm
  unfold s_use at hp
  refine xp_aload_n d_M_use_0 rfl ?_
  refine xp_aload_n d_M_use_1 rfl ?_
  refine xm_getI d_M_use_2 fg_M_107 hz ?_
  rw [eh]
  refine xq_V1r d_M_use_5 g_M_use_181 (x_mA hz) rfl rfl ?_
  refine c_M_dueOf hm em hm6 ?_
  refine ⟨_, rfl, ?_⟩
  refine xp_istore_n d_M_use_8 (by decide) ?_
  refine xp_aload_n d_M_use_9 rfl ?_
  refine xp_aload_n d_M_use_10 rfl ?_
  refine xm_getI d_M_use_11 fg_M_107 hz ?_
  rw [eh]
  refine xq_V1r d_M_use_14 g_M_use_184 (x_mA hz) rfl rfl ?_
  refine c_M_firstOf hm ea ha6 ?_
  refine ⟨_, rfl, ?_⟩
  refine xp_istore_n d_M_use_17 (by decide) ?_
  cases hd : s_dueO J (nI h) m with
  | some q =>
    have hlt := k_srch_lt _ _ _ _ (show k_srch _ m 0 = some q from hd)
    obtain ⟨w, hw6, ew⟩ := hw q (by omega)
    rw [hd] at hp
    refine xp_aload_n d_M_use_18 rfl ?_
    refine xm_getI d_M_use_19 fg_M_187 hz ?_
    refine xp_iconst (v := 2) d_M_use_22 (by decide) ?_
    refine xp_icmp_eq (tgt := 34) d_M_use_23 (by decide) (fun c23 => ?_) (fun c23 => ?_)
    · skip
      simp only [if_pos c23] at hp
      refine xp_loc (lv' := [(0, .ref 68)]) ⟨rfl, trivial⟩ ?_
      exact l_M_use_34 hm hh eh ef hs es hnx enx hp
    · skip
      refine xp_iload_n d_M_use_26 rfl ?_
      refine xp_if_ge (tgt := 84) d_M_use_27 (by decide) (fun c27 => ?_) (fun c27 => absurd (nI_pos' (by omega)) c27)
      refine xp_aload_n d_M_use_84 rfl ?_
      refine xp_dup d_M_use_85 rfl ?_
      refine xm_getI d_M_use_86 fg_M_187 hz ?_
      refine xp_iconst (v := 1) d_M_use_89 (by decide) ?_
      refine xp_iadd d_M_use_90 ?_
      refine xm_putI d_M_use_91 f_M_187 hz ?_
      refine xp_iload_n d_M_use_94 rfl ?_
      refine xp_if_lt (tgt := 106) d_M_use_95 (by decide) (fun c95 => absurd c95 (nI_pos (by omega))) (fun c95 => ?_)
      refine xp_aload_n d_M_use_98 rfl ?_
      refine xp_iload_n d_M_use_99 rfl ?_
      refine xq_V1v d_M_use_100 g_M_use_202 (x_mA hz) rfl rfl ?_
      refine c_M_tell hm (w := w) (by omega) hw6 ((x_up_ne (by omega)).trans ew) (Nat.zero_le 1) ((x_up_ne (by omega)).trans ef) hs ((x_up_ne (by omega)).trans es) ?_
      refine ⟨rfl, ?_⟩
      refine xp_goto (tgt := 111) d_M_use_103 (by decide) ?_
      refine xp_return_ d_M_use_111 rfl ?_
      simp only [if_neg c23] at hp
      exact hp
  | none =>
    rw [hd] at hp
    cases hf : s_firO J (nI h) made with
    | some r =>
      have hlt := k_srch_lt _ _ _ _ (show k_srch _ made 0 = some r from hf)
      obtain ⟨t, ht, et⟩ := hr r (by omega)
      rw [hf] at hp
      refine xp_aload_n d_M_use_18 rfl ?_
      refine xm_getI d_M_use_19 fg_M_187 hz ?_
      refine xp_iconst (v := 2) d_M_use_22 (by decide) ?_
      refine xp_icmp_eq (tgt := 34) d_M_use_23 (by decide) (fun c23 => ?_) (fun c23 => ?_)
      · skip
        simp only [if_pos c23] at hp
        refine xp_loc (lv' := [(0, .ref 68)]) ⟨rfl, trivial⟩ ?_
        exact l_M_use_34 hm hh eh ef hs es hnx enx hp
      · skip
        refine xp_iload_n d_M_use_26 rfl ?_
        refine xp_if_ge (tgt := 84) d_M_use_27 (by decide) (fun c27 => absurd c27 (by decide)) (fun c27 => ?_)
        refine xp_iload_n d_M_use_30 rfl ?_
        refine xp_if_ge (tgt := 84) d_M_use_31 (by decide) (fun c31 => ?_) (fun c31 => absurd (nI_pos' (by omega)) c31)
        refine xp_aload_n d_M_use_84 rfl ?_
        refine xp_dup d_M_use_85 rfl ?_
        refine xm_getI d_M_use_86 fg_M_187 hz ?_
        refine xp_iconst (v := 1) d_M_use_89 (by decide) ?_
        refine xp_iadd d_M_use_90 ?_
        refine xm_putI d_M_use_91 f_M_187 hz ?_
        refine xp_iload_n d_M_use_94 rfl ?_
        refine xp_if_lt (tgt := 106) d_M_use_95 (by decide) (fun c95 => ?_) (fun c95 => absurd (by decide) c95)
        refine xp_aload_n d_M_use_106 rfl ?_
        refine xp_iload_n d_M_use_107 rfl ?_
        refine xq_V1v d_M_use_108 g_M_use_205 (x_mA hz) rfl rfl ?_
        refine c_M_ask hm (t := t) (by omega) ht ((x_up_ne (by omega)).trans et) ((x_up_ne (by omega)).trans em) hm6 (by rw [s_sof_row (J' := x_up J 68 34 (J 68 34 + 1)) (J := J) (fun k => x_up_ne (by omega))]; exact hroom t ht) rfl ((x_up_ne (by omega)).trans ef) hs ((x_up_ne (by omega)).trans es) ?_
        refine ⟨rfl, ?_⟩
        refine xp_return_ d_M_use_111 rfl ?_
        simp only [if_neg c23] at hp
        exact hp
    | none =>
      rw [hf] at hp
      refine xp_aload_n d_M_use_18 rfl ?_
      refine xm_getI d_M_use_19 fg_M_187 hz ?_
      refine xp_iconst (v := 2) d_M_use_22 (by decide) ?_
      refine xp_icmp_eq (tgt := 34) d_M_use_23 (by decide) (fun c23 => ?_) (fun c23 => ?_)
      · skip
        simp only [if_pos c23] at hp
        refine xp_loc (lv' := [(0, .ref 68)]) ⟨rfl, trivial⟩ ?_
        exact l_M_use_34 hm hh eh ef hs es hnx enx hp
      · skip
        refine xp_iload_n d_M_use_26 rfl ?_
        refine xp_if_ge (tgt := 84) d_M_use_27 (by decide) (fun c27 => absurd c27 (by decide)) (fun c27 => ?_)
        refine xp_iload_n d_M_use_30 rfl ?_
        refine xp_if_ge (tgt := 84) d_M_use_31 (by decide) (fun c31 => absurd c31 (by decide)) (fun c31 => ?_)
        simp only [if_neg c23] at hp
        refine xp_loc (lv' := [(0, .ref 68)]) ⟨rfl, trivial⟩ ?_
        exact l_M_use_34 hm hh eh ef hs es hnx enx hp
set_option maxRecDepth 100000 in
set_option maxHeartbeats 1000000 in
theorem l_M_listen_12 (hm : x_mdl z P) : ∀ q m : Nat, q + m = 6 → (post none (z, x_mg I (s_li J q m), P)) → xp G M_M_listen 12 [(0, .ref 68), (1, .int (nI m))] [] (z, x_mg I J, P) 0 0 post := by
  obtain ⟨hz, m_powered, m_next, m_polled, m_count, m_tokens, m_input, m_setpoint, m_gainP, m_gainI, m_sum, m_level, m_taken, m_from, m_target, m_what, m_given, m_state, m_tries, m_got, m_error, m_reply, m_kept, m_whose, m_object, m_seen, m_due, m_notedNode, m_notedObject, m_notedValue, m_notices, m_bytes, m_length⟩ := id hm
  intro q
  induction q with
  | zero =>
    intro m hk hp
    refine xp_iload_n d_M_listen_12 rfl ?_
    refine xp_bipush (v := 6) d_M_listen_13 (by decide) ?_
    refine xp_icmp_ge (tgt := 75) d_M_listen_15 (by decide) (fun c15 => ?_) (fun c15 => absurd (show (6 : Int32) ≤ nI m by rw [show m = 6 by omega]; decide) c15)
    refine xp_return_ d_M_listen_75 rfl ?_
    exact hp
  | succ q ih =>
    intro m hk hp
    unfold s_li at hp
    refine xp_iload_n d_M_listen_12 rfl ?_
    refine xp_bipush (v := 6) d_M_listen_13 (by decide) ?_
    refine xp_icmp_ge (tgt := 75) d_M_listen_15 (by decide) (fun c15 => absurd c15 (fun e => by have := (nI_leI (a := 6) (b := m) (by decide) (by omega)).mp e; omega)) (fun c15 => ?_)
    refine xp_aload_n d_M_listen_18 rfl ?_
    refine xm_getR d_M_listen_19 fg_M_7 hz (by assumption) ?_
    refine xp_iload_n d_M_listen_22 rfl ?_
    refine xm_baload d_M_listen_23 rfl (by decide) hz rfl (by omega) (by decide) ?_
    refine xp_if_eq (tgt := 69) d_M_listen_24 (by decide) (fun c24 => ?_) (fun c24 => ?_)
    · skip
      refine xp_inc1 d_M_listen_69 rfl (by decide) ?_
      refine xp_goto (tgt := 12) d_M_listen_72 (by decide) ?_
      refine xp_loc (lv' := [(0, .ref 68), (1, .int (nI (m + 1)))]) ⟨rfl, rfl, trivial⟩ ?_
      rw [if_pos c24] at hp
      exact ih (m + 1) (by omega) hp
    · skip
      refine xp_aload_n d_M_listen_27 rfl ?_
      refine xm_getI d_M_listen_28 fg_M_118 hz ?_
      refine xp_iconst (v := 4) d_M_listen_31 (by decide) ?_
      refine xp_iconst (v := 2) d_M_listen_32 (by decide) ?_
      refine xp_iload_n d_M_listen_33 rfl ?_
      refine xp_imul d_M_listen_34 ?_
      refine xp_iadd d_M_listen_35 ?_
      refine xp_icmp_lt (tgt := 68) d_M_listen_36 (by decide) (fun c36 => ?_) (fun c36 => ?_)
      · skip
        refine xp_return_ d_M_listen_68 rfl ?_
        simp only [if_neg c24, if_pos c36] at hp
        exact hp
      · skip
        refine xp_aload_n d_M_listen_39 rfl ?_
        refine xp_iload_n d_M_listen_40 rfl ?_
        refine xm_putI d_M_listen_41 f_M_107 hz ?_
        refine xp_aload_n d_M_listen_44 rfl ?_
        refine xm_getR d_M_listen_45 fg_M_13 hz (by assumption) ?_
        refine xp_iload_n d_M_listen_48 rfl ?_
        refine xp_iload_n d_M_listen_49 rfl ?_
        refine xm_iastore d_M_listen_50 rfl (by decide) hz rfl (by omega) (by decide) ?_
        refine xp_aload_n d_M_listen_51 rfl ?_
        refine xm_getR d_M_listen_52 fg_M_17 hz (by assumption) ?_
        refine xp_iload_n d_M_listen_55 rfl ?_
        refine xp_iload_n d_M_listen_56 rfl ?_
        refine xm_iastore d_M_listen_57 rfl (by decide) hz rfl (by omega) (by decide) ?_
        refine xp_aload_n d_M_listen_58 rfl ?_
        refine xp_iconst (v := 3) d_M_listen_59 (by decide) ?_
        refine xm_putI d_M_listen_60 f_M_190 hz ?_
        refine xp_aload_n d_M_listen_63 rfl ?_
        refine xp_iconst (v := 0) d_M_listen_64 (by decide) ?_
        refine xm_putI d_M_listen_65 f_M_118 hz ?_
        refine xp_return_ d_M_listen_68 rfl ?_
        simp only [if_neg c24, if_neg c36] at hp
        exact hp
set_option maxRecDepth 100000 in
set_option maxHeartbeats 1000000 in
theorem c_M_listen (hm : x_mdl z P)  (hp : post none (z, x_mg I (s_lis J), P)) : xp G M_M_listen 0 [(0, .ref 68)] [] (z, x_mg I J, P) 0 0 post := by
  obtain ⟨hz, m_powered, m_next, m_polled, m_count, m_tokens, m_input, m_setpoint, m_gainP, m_gainI, m_sum, m_level, m_taken, m_from, m_target, m_what, m_given, m_state, m_tries, m_got, m_error, m_reply, m_kept, m_whose, m_object, m_seen, m_due, m_notedNode, m_notedObject, m_notedValue, m_notices, m_bytes, m_length⟩ := id hm
  refine xp_aload_n d_M_listen_0 rfl ?_
  refine xp_dup d_M_listen_1 rfl ?_
  refine xm_getI d_M_listen_2 fg_M_118 hz ?_
  refine xp_iconst (v := 1) d_M_listen_5 (by decide) ?_
  refine xp_iadd d_M_listen_6 ?_
  refine xm_putI d_M_listen_7 f_M_118 hz ?_
  refine xp_iconst (v := 0) d_M_listen_10 (by decide) ?_
  refine xp_istore_n d_M_listen_11 (by decide) ?_
  refine xp_loc (lv' := [(0, .ref 68), (1, .int (nI 0))]) ⟨rfl, rfl, trivial⟩ ?_
  exact l_M_listen_12 hm 6 0 rfl hp
end partAA
