/-! the model sends -/
theorem s_l4_ne {J : xI} {b a j : Nat} {sv ie ob le : Int32} (h : a ≠ 99) : s_l4 J b sv ie ob le a j = J a j := by
  unfold s_l4
  repeat rw [x_up_ne (by omega)]
theorem s_ly_ne {J : xI} {b a j : Nat} {v : Int32} (h : a ≠ 99) : ∀ k, s_ly J b v k a j = J a j
  | 0 => rfl
  | k + 1 => by
    show x_up (s_ly J b v k) 99 (b + 4 + k) _ a j = _
    rw [x_up_ne (by omega), s_ly_ne h k]
theorem s_lay_ne {J : xI} {f a j : Nat} {sv ie ob le v : Int32} (h : a ≠ 99) : s_lay J f sv ie ob le v a j = J a j := by
  unfold s_lay
  rw [s_ly_ne h, s_l4_ne h]
theorem s_h8_ne {J : xI} {f a j : Nat} {ty to so n len : Int32} (h : a ≠ 99) (h1 : a ≠ 100) (h2 : a ≠ 68 ∨ j ≠ 39) : s_h8 J f ty to so n len a j = J a j := by
  unfold s_h8 s_h7
  repeat rw [x_up_ne (by omega)]
  exact x_up_ne (by omega)
theorem s_hd_ne {J : xI} {f a j : Nat} {ty to so d : Int32} (h : a ≠ 99) (h1 : a ≠ 100) (h2 : a ≠ 68 ∨ j ≠ 39) : s_hd J f ty to so d a j = J a j := by
  unfold s_hd
  by_cases c : d = 0
  · rw [if_pos c, s_h8_ne h h1 h2]
  · rw [if_neg c, x_up_ne (by omega), x_up_ne (by omega), s_h8_ne h h1 h2]
theorem s_spl_ne {J : xI} {f s a j : Nat} (h : a ≠ 99) : s_spl J f s a j = J a j := by
  unfold s_spl
  by_cases c1 : J 68 44 ≤ 0
  · rw [if_pos c1]
  rw [if_neg c1]
  by_cases c2 : J 68 42 = nI f
  · rw [if_pos c2]
    by_cases c3 : J 100 f ≤ J 68 43
    · rw [if_pos c3]
    · rw [if_neg c3, x_up_ne (by omega)]
  · rw [if_neg c2]
theorem s_caJ_ne {J : xI} {f s a j : Nat} {ty to so d : Int32} (h : a ≠ 99) (h1 : a ≠ 100) (h2 : a ≠ 68 ∨ j ≠ 39) : s_caJ J f s ty to so d a j = J a j := by
  unfold s_caJ
  rw [s_spl_ne h, s_hd_ne h h1 h2]
theorem s_h8_39 {J : xI} {f : Nat} {ty to so n len : Int32} : s_h8 J f ty to so n len 68 39 = nI f + 1 := by
  unfold s_h8 s_h7
  rw [x_up_ne (by omega), x_up_ne (by omega), x_up_ne (by omega), x_up_ne (by omega), x_up_ne (by omega), x_up_ne (by omega), x_up_ne (by omega), x_up_ne (by omega), x_up_ne (by omega)]
  exact x_up_eq ⟨rfl, rfl⟩
theorem s_caJ_39 {J : xI} {f s : Nat} {ty to so d : Int32} : s_caJ J f s ty to so d 68 39 = nI (f + 1) := by
  unfold s_caJ s_hd
  rw [s_spl_ne (by omega), nI_succ]
  by_cases c : d = 0
  · rw [if_pos c, s_h8_39]
  · rw [if_neg c, x_up_ne (by omega), x_up_ne (by omega), s_h8_39]
theorem s_fin_ne {J : xI} {r a j : Nat} {bad out : Int32} (h : a < 87 ∨ 89 < a) : s_fin J r bad out a j = J a j := by
  unfold s_fin
  rw [x_up_ne (by omega), x_up_ne (by omega), x_up_ne (by omega)]
theorem s_sn_ne {J : xI} {q a j : Nat} {n ob : Int32} (h : a ≠ 93 ∧ a ≠ 94) : s_sn J q n ob a j = J a j := by
  unfold s_sn
  rw [x_up_ne (by omega), x_up_ne (by omega)]
theorem s_sbJ_ne {J : xI} {n who ob : Int32} {m a j : Nat} (h : a < 90 ∨ 94 < a) (h2 : a ≠ 68 ∨ j ≠ 22) : s_sbJ J n who ob m a j = J a j := by
  unfold s_sbJ
  cases s_sbO J n who ob m with
  | some q => exact s_sn_ne (by omega)
  | none =>
    dsimp only
    by_cases c : s_sof J n m = 3
    · rw [if_pos c]
    · rw [if_neg c, s_sn_ne (by omega), x_up_ne (by omega)]
      exact (x_up_ne (by omega)).trans ((x_up_ne (by omega)).trans (x_up_ne (by omega)))
theorem s_work_ne {J : xI} {r m a j : Nat} (h : a < 75 ∨ (75 < a ∧ a < 79) ∨ (80 < a ∧ a < 87) ∨ 94 < a) (h2 : a ≠ 68 ∨ j ≠ 22) : s_work J r m a j = J a j := by
  unfold s_work s_wk
  have w5 : ∀ (n sv ob : Int32), s_wk5 J r n sv ob m a j = J a j := fun n sv ob => by
    unfold s_wk5
    by_cases c1 : sv = 4
    · rw [if_pos c1]
      by_cases c2 : 2 ≤ ob
      · rw [if_pos c2, s_fin_ne (by omega)]
      · rw [if_neg c2, s_fin_ne (by omega), s_sbJ_ne (by omega) h2]
    · rw [if_neg c1, s_fin_ne (by omega)]
  have w4 : ∀ (n sv ob l : Int32), s_wk4 J r n sv ob l m a j = J a j := fun n sv ob l => by
    unfold s_wk4
    by_cases c1 : sv = 3
    · rw [if_pos c1]
      by_cases c2 : s_one ob l = 0
      · rw [if_pos c2, w5]
      · rw [if_neg c2, s_fin_ne (by omega), x_up_ne (by omega)]
    · rw [if_neg c1, w5]
  have w3 : ∀ (n sv ob l : Int32), s_wk3 J r n sv ob l m a j = J a j := fun n sv ob l => by
    unfold s_wk3
    by_cases c1 : sv = 2
    · rw [if_pos c1]
      by_cases c2 : ob = 2
      · rw [if_pos c2]
        by_cases c3 : l = 0
        · rw [if_pos c3]
          by_cases c4 : s_out (J 84 r) (-10000) 10000 = 0
          · rw [if_pos c4, s_fin_ne (by omega), x_up_ne (by omega)]
          · rw [if_neg c4, w4]
        · rw [if_neg c3, w4]
      · rw [if_neg c2, w4]
    · rw [if_neg c1, w4]
  by_cases c1 : s_sv (J 83 r) = 1
  · rw [if_pos c1, s_fin_ne (by omega)]
  · rw [if_neg c1]
    unfold s_wk2
    by_cases c2 : s_sv (J 83 r) = 2
    · rw [if_pos c2]
      by_cases c3 : s_one (s_ob (J 83 r)) (s_lv (J 83 r)) = 0
      · rw [if_pos c3, w3]
      · rw [if_neg c3, s_fin_ne (by omega), x_up_ne (by omega), x_up_ne (by omega)]
    · rw [if_neg c2, w3]
abbrev s_t0 (J : xI) (q : Nat) : Int32 := s_val J (J 68 32) (J 92 q)
abbrev s_t1 (J : xI) (q f : Nat) : xI := s_lay J f 5 0 (J 92 q) 0 (s_t0 J q)
abbrev s_t2 (J : xI) (q f s : Nat) : xI := s_caJ (s_t1 J q f) f s 6 (s_t1 J q f 91 q) (s_t1 J q f 68 32) 1
abbrev s_t3 (J : xI) (q f s : Nat) : xI := x_up (x_up (s_t2 J q f s) 93 q (s_t0 J q)) 94 q 0
abbrev s_t4 (J : xI) (q w : Nat) : xI := x_up J 95 w (J 68 32)
abbrev s_t5 (J : xI) (q w : Nat) : xI := x_up (s_t4 J q w) 96 w (s_t4 J q w 92 q)
def s_t6 (J : xI) (q w : Nat) (v : Int32) : xI := x_up (x_up (s_t5 J q w) 97 w v) 98 w (x_up (s_t5 J q w) 97 w v 98 w + 1)
def s_tell (J : xI) (q f s : Nat) : xI := if s_caV (s_t1 J q f) f s 6 (s_t1 J q f 91 q) (s_t1 J q f 68 32) 1 = 0 then s_t3 J q f s else s_t6 (s_t3 J q f s) q (k_tn (J 91 q)) (s_t0 J q)
def s_tl1 (J : xI) (r : Nat) (b : Int32) : xI := x_up J 86 r (if b = 0 then J 86 r + 1 else J 86 r)
def s_tl (J : xI) (r : Nat) (b : Int32) : xI := x_up (s_tl1 J r b) 85 r (if b = 0 then (if s_tl1 J r b 86 r = 3 then 3 else 0) else (if s_tl1 J r b 88 r = 0 then 1 else 2))
def s_a1 (J : xI) (r f : Nat) : xI := s_lay J f (s_sv (J 83 r)) (nI r) (s_ob (J 83 r)) (s_lv (J 83 r)) (J 84 r)
def s_a2 (J : xI) (r f s : Nat) : xI := s_caJ (s_a1 J r f) f s 5 (s_a1 J r f 82 r) (s_a1 J r f 68 32) 1
def s_a3 (J : xI) (r f s m : Nat) : xI := if s_a2 J r f s 87 r = 0 then s_work (s_a2 J r f s) r m else s_a2 J r f s
def s_a4 (J : xI) (w : Int32) (r f : Nat) : xI := s_lay J f (s_sv w + (if J 88 r = 0 then 128 else 64)) (nI r) (s_ob w) (s_lv w) (J 89 r)
def s_a5 (J : xI) (w : Int32) (r f s : Nat) : xI := s_caJ (s_a4 J w r f) f s 6 (s_a4 J w r f 68 32) (s_a4 J w r f 82 r) 1
def s_a6 (J : xI) (w : Int32) (r f s : Nat) : xI := s_tl (s_a5 J w r f s) r (s_caV (s_a4 J w r f) f s 6 (s_a4 J w r f 68 32) (s_a4 J w r f 82 r) 1)
def s_ask (J : xI) (r f s m : Nat) : xI := if s_caV (s_a1 J r f) f s 5 (s_a1 J r f 82 r) (s_a1 J r f 68 32) 1 = 0 then s_tl (s_a2 J r f s) r 0 else s_a6 (s_a3 J r f s m) (J 83 r) r (f + 1) s
def s_tu (J : xI) : xI := x_up (x_up J 68 33 0) 68 34 0
def s_tp (J : xI) : xI := x_up (x_up J 68 33 2) 68 35 0
theorem s_sof_row {J J' : xI} (h : ∀ k, J' 90 k = J 90 k) (n : Int32) : ∀ m, s_sof J' n m = s_sof J n m
  | 0 => rfl
  | m + 1 => by
    unfold s_sof
    rw [h m, s_sof_row h n m]
section partA8
variable {G : xG} {z : Nat} {I J : xI} {P : xP} {post : Option Value → xH → Prop} {h0 : xH}
set_option maxRecDepth 100000 in
set_option maxHeartbeats 1000000 in
theorem c_M_toUse (hm : x_mdl z P)  (hp : post none (z, x_mg I (s_tu J), P)) : xp G M_M_toUse 0 [(0, .ref 68)] [] (z, x_mg I J, P) 0 0 post := by
  obtain ⟨hz, m_powered, m_next, m_polled, m_count, m_tokens, m_input, m_setpoint, m_gainP, m_gainI, m_sum, m_level, m_taken, m_from, m_target, m_what, m_given, m_state, m_tries, m_got, m_error, m_reply, m_kept, m_whose, m_object, m_seen, m_due, m_notedNode, m_notedObject, m_notedValue, m_notices, m_bytes, m_length⟩ := id hm
  refine xp_aload_n d_M_toUse_0 rfl ?_
  refine xp_iconst (v := 0) d_M_toUse_1 (by decide) ?_
  refine xm_putI d_M_toUse_2 f_M_190 hz ?_
  refine xp_aload_n d_M_toUse_5 rfl ?_
  refine xp_iconst (v := 0) d_M_toUse_6 (by decide) ?_
  refine xm_putI d_M_toUse_7 f_M_187 hz ?_
  refine xp_return_ d_M_toUse_10 rfl ?_
  exact hp
set_option maxRecDepth 100000 in
set_option maxHeartbeats 1000000 in
theorem c_M_toPass (hm : x_mdl z P)  (hp : post none (z, x_mg I (s_tp J), P)) : xp G M_M_toPass 0 [(0, .ref 68)] [] (z, x_mg I J, P) 0 0 post := by
  obtain ⟨hz, m_powered, m_next, m_polled, m_count, m_tokens, m_input, m_setpoint, m_gainP, m_gainI, m_sum, m_level, m_taken, m_from, m_target, m_what, m_given, m_state, m_tries, m_got, m_error, m_reply, m_kept, m_whose, m_object, m_seen, m_due, m_notedNode, m_notedObject, m_notedValue, m_notices, m_bytes, m_length⟩ := id hm
  refine xp_aload_n d_M_toPass_0 rfl ?_
  refine xp_iconst (v := 2) d_M_toPass_1 (by decide) ?_
  refine xm_putI d_M_toPass_2 f_M_190 hz ?_
  refine xp_aload_n d_M_toPass_5 rfl ?_
  refine xp_iconst (v := 0) d_M_toPass_6 (by decide) ?_
  refine xm_putI d_M_toPass_7 f_M_208 hz ?_
  refine xp_return_ d_M_toPass_10 rfl ?_
  exact hp
set_option maxRecDepth 100000 in
set_option maxHeartbeats 1000000 in
theorem c_M_tell (hm : x_mdl z P) {q w : Nat} (hq : q < 18) (hw : w < 6) (ew0 : J 91 q = nI w) {f s : Nat} (hf : f ≤ 1) (ef : J 68 39 = nI f) (hs : s < 18) (es : J 68 43 = nI s) (hp : post none (z, x_mg I (s_tell J q f s), P)) : xp G M_M_tell 0 [(0, .ref 68), (1, .int (nI q))] [] (z, x_mg I J, P) 0 0 post := by
  obtain ⟨hz, m_powered, m_next, m_polled, m_count, m_tokens, m_input, m_setpoint, m_gainP, m_gainI, m_sum, m_level, m_taken, m_from, m_target, m_what, m_given, m_state, m_tries, m_got, m_error, m_reply, m_kept, m_whose, m_object, m_seen, m_due, m_notedNode, m_notedObject, m_notedValue, m_notices, m_bytes, m_length⟩ := id hm
  unfold s_tell at hp
  refine xp_aload_n d_M_tell_0 rfl ?_
  refine xp_aload_n d_M_tell_1 rfl ?_
  refine xm_getI d_M_tell_2 fg_M_107 hz ?_
  refine xp_aload_n d_M_tell_5 rfl ?_
  refine xm_getR d_M_tell_6 fg_M_80 hz (by assumption) ?_
  refine xp_iload_n d_M_tell_9 rfl ?_
  refine xm_iaload d_M_tell_10 rfl (by decide) hz rfl (by omega) (by decide) ?_
  refine xq_V2r d_M_tell_11 g_M_tell_162 (x_mA hz) rfl rfl ?_
  refine c_M_value hm ?_
  refine ⟨_, rfl, ?_⟩
  refine xp_istore_n d_M_tell_14 (by decide) ?_
  refine xp_aload_n d_M_tell_15 rfl ?_
  refine xp_iconst (v := 5) d_M_tell_16 (by decide) ?_
  refine xp_iconst (v := 0) d_M_tell_17 (by decide) ?_
  refine xp_aload_n d_M_tell_18 rfl ?_
  refine xm_getR d_M_tell_19 fg_M_80 hz (by assumption) ?_
  refine xp_iload_n d_M_tell_22 rfl ?_
  refine xm_iaload d_M_tell_23 rfl (by decide) hz rfl (by omega) (by decide) ?_
  refine xp_iconst (v := 0) d_M_tell_24 (by decide) ?_
  refine xp_iload_n d_M_tell_25 rfl ?_
  refine xq_V5v d_M_tell_26 g_M_tell_169 (x_mA hz) rfl rfl ?_
  refine c_M_lay hm hf ef ?_
  refine ⟨rfl, ?_⟩
  refine xp_aload_n d_M_tell_29 rfl ?_
  refine xp_bipush (v := 6) d_M_tell_30 (by decide) ?_
  refine xp_aload_n d_M_tell_32 rfl ?_
  refine xm_getR d_M_tell_33 fg_M_77 hz (by assumption) ?_
  refine xp_iload_n d_M_tell_36 rfl ?_
  refine xm_iaload d_M_tell_37 rfl (by decide) hz rfl (by omega) (by decide) ?_
  refine xp_aload_n d_M_tell_38 rfl ?_
  refine xm_getI d_M_tell_39 fg_M_107 hz ?_
  refine xp_iconst (v := 1) d_M_tell_42 (by decide) ?_
  refine xq_V4r d_M_tell_43 g_M_tell_173 (x_mA hz) rfl rfl ?_
  refine c_M_carry hm hf (by rw [s_lay_ne (by omega)]; exact ef) hs (by rw [s_lay_ne (by omega)]; exact es) ?_
  refine ⟨_, rfl, ?_⟩
  refine xp_istore_n d_M_tell_46 (by decide) ?_
  have ew : s_t2 J q f s 91 q = nI w := (s_caJ_ne (by omega) (by omega) (by omega)).trans ((s_lay_ne (by omega)).trans ew0)
  have ek : k_tn (J 91 q) = w := by rw [ew0]; exact k_tn_nI (by omega)
  rw [ek] at hp
  refine xp_aload_n d_M_tell_47 rfl ?_
  refine xm_getR d_M_tell_48 fg_M_83 hz (by assumption) ?_
  refine xp_iload_n d_M_tell_51 rfl ?_
  refine xp_iload_n d_M_tell_52 rfl ?_
  refine xm_iastore d_M_tell_53 rfl (by decide) hz rfl (by omega) (by decide) ?_
  refine xp_aload_n d_M_tell_54 rfl ?_
  refine xm_getR d_M_tell_55 fg_M_86 hz (by assumption) ?_
  refine xp_iload_n d_M_tell_58 rfl ?_
  refine xp_iconst (v := 0) d_M_tell_59 (by decide) ?_
  refine xm_bastore d_M_tell_60 rfl (by decide) hz rfl (by omega) (by decide) (by first | exact Or.inl rfl | exact Or.inr rfl | assumption) ?_
  refine xp_iload_n d_M_tell_61 rfl ?_
  refine xp_if_eq (tgt := 124) d_M_tell_62 (by decide) (fun c62 => ?_) (fun c62 => ?_)
  · skip
    refine xp_return_ d_M_tell_124 rfl ?_
    simp only [if_pos c62] at hp
    exact hp
  · skip
    refine xp_aload_n d_M_tell_65 rfl ?_
    refine xm_getR d_M_tell_66 fg_M_89 hz (by assumption) ?_
    refine xp_aload_n d_M_tell_69 rfl ?_
    refine xm_getR d_M_tell_70 fg_M_77 hz (by assumption) ?_
    refine xp_iload_n d_M_tell_73 rfl ?_
    refine xm_iaload d_M_tell_74 rfl (by decide) hz rfl (by omega) (by decide) ?_
    refine xp_aload_n d_M_tell_75 rfl ?_
    refine xm_getI d_M_tell_76 fg_M_107 hz ?_
    refine xm_iastore d_M_tell_79 rfl (by decide) hz (by (repeat rw [x_up_ne (by omega)]); exact ew) (by omega) (by decide) ?_
    refine xp_aload_n d_M_tell_80 rfl ?_
    refine xm_getR d_M_tell_81 fg_M_92 hz (by assumption) ?_
    refine xp_aload_n d_M_tell_84 rfl ?_
    refine xm_getR d_M_tell_85 fg_M_77 hz (by assumption) ?_
    refine xp_iload_n d_M_tell_88 rfl ?_
    refine xm_iaload d_M_tell_89 rfl (by decide) hz rfl (by omega) (by decide) ?_
    refine xp_aload_n d_M_tell_90 rfl ?_
    refine xm_getR d_M_tell_91 fg_M_80 hz (by assumption) ?_
    refine xp_iload_n d_M_tell_94 rfl ?_
    refine xm_iaload d_M_tell_95 rfl (by decide) hz rfl (by omega) (by decide) ?_
    refine xm_iastore d_M_tell_96 rfl (by decide) hz (by (repeat rw [x_up_ne (by omega)]); exact ew) (by omega) (by decide) ?_
    refine xp_aload_n d_M_tell_97 rfl ?_
    refine xm_getR d_M_tell_98 fg_M_95 hz (by assumption) ?_
    refine xp_aload_n d_M_tell_101 rfl ?_
    refine xm_getR d_M_tell_102 fg_M_77 hz (by assumption) ?_
    refine xp_iload_n d_M_tell_105 rfl ?_
    refine xm_iaload d_M_tell_106 rfl (by decide) hz rfl (by omega) (by decide) ?_
    refine xp_iload_n d_M_tell_107 rfl ?_
    refine xm_iastore d_M_tell_108 rfl (by decide) hz (by (repeat rw [x_up_ne (by omega)]); exact ew) (by omega) (by decide) ?_
    refine xp_aload_n d_M_tell_109 rfl ?_
    refine xm_getR d_M_tell_110 fg_M_98 hz (by assumption) ?_
    refine xp_aload_n d_M_tell_113 rfl ?_
    refine xm_getR d_M_tell_114 fg_M_77 hz (by assumption) ?_
    refine xp_iload_n d_M_tell_117 rfl ?_
    refine xm_iaload d_M_tell_118 rfl (by decide) hz rfl (by omega) (by decide) ?_
    refine xp_dup2 d_M_tell_119 rfl rfl ?_
    refine xm_iaload d_M_tell_120 rfl (by decide) hz (by (repeat rw [x_up_ne (by omega)]); exact ew) (by omega) (by decide) ?_
    refine xp_iconst (v := 1) d_M_tell_121 (by decide) ?_
    refine xp_iadd d_M_tell_122 ?_
    refine xm_iastore d_M_tell_123 rfl (by decide) hz (by (repeat rw [x_up_ne (by omega)]); exact ew) (by omega) (by decide) ?_
    refine xp_return_ d_M_tell_124 rfl ?_
    simp only [if_neg c62] at hp
    exact hp
set_option maxRecDepth 100000 in
set_option maxHeartbeats 1000000 in
theorem l_M_ask_137 (hm : x_mdl z P) {r : Nat} {b : Int32} (hr : r < 60) (hp : post none (z, x_mg I (s_tl J r b), P)) : xp G M_M_ask 137 [(0, .ref 68), (1, .int (nI r)), (5, .int b)] [] (z, x_mg I J, P) 0 0 post := by
  obtain ⟨hz, m_powered, m_next, m_polled, m_count, m_tokens, m_input, m_setpoint, m_gainP, m_gainI, m_sum, m_level, m_taken, m_from, m_target, m_what, m_given, m_state, m_tries, m_got, m_error, m_reply, m_kept, m_whose, m_object, m_seen, m_due, m_notedNode, m_notedObject, m_notedValue, m_notices, m_bytes, m_length⟩ := id hm
  rcases Classical.em (b = 0) with cb | cb
  · skip
    unfold s_tl s_tl1 at hp
    simp only [if_pos cb] at hp
    refine xp_aload_n d_M_ask_137 rfl ?_
    refine xm_getR d_M_ask_138 fg_M_62 hz (by assumption) ?_
    refine xp_iload_n d_M_ask_141 rfl ?_
    refine xp_iload d_M_ask_142 rfl ?_
    refine xp_if_eq (tgt := 156) d_M_ask_144 (by decide) (fun c144 => ?_) (fun c144 => absurd cb c144)
    refine xp_aload_n d_M_ask_156 rfl ?_
    refine xm_getR d_M_ask_157 fg_M_62 hz (by assumption) ?_
    refine xp_iload_n d_M_ask_160 rfl ?_
    refine xm_iaload d_M_ask_161 rfl (by decide) hz rfl (by omega) (by decide) ?_
    refine xp_iconst (v := 1) d_M_ask_162 (by decide) ?_
    refine xp_iadd d_M_ask_163 ?_
    refine xm_iastore d_M_ask_164 rfl (by decide) hz rfl (by omega) (by decide) ?_
    refine xp_aload_n d_M_ask_165 rfl ?_
    refine xm_getR d_M_ask_166 fg_M_59 hz (by assumption) ?_
    refine xp_iload_n d_M_ask_169 rfl ?_
    refine xp_iload d_M_ask_170 rfl ?_
    refine xp_if_eq (tgt := 192) d_M_ask_172 (by decide) (fun c172 => ?_) (fun c172 => absurd cb c172)
    refine xp_aload_n d_M_ask_192 rfl ?_
    refine xm_getR d_M_ask_193 fg_M_62 hz (by assumption) ?_
    refine xp_iload_n d_M_ask_196 rfl ?_
    refine xm_iaload d_M_ask_197 rfl (by decide) hz rfl (by omega) (by decide) ?_
    refine xp_iconst (v := 3) d_M_ask_198 (by decide) ?_
    refine xp_icmp_ne (tgt := 206) d_M_ask_199 (by decide) (fun c199 => ?_) (fun c199 => ?_)
    · skip
      refine xp_iconst (v := 0) d_M_ask_206 (by decide) ?_
      refine xm_iastore d_M_ask_207 rfl (by decide) hz rfl (by omega) (by decide) ?_
      refine xp_return_ d_M_ask_208 rfl ?_
      simp only [if_neg c199] at hp
      exact hp
    · skip
      refine xp_iconst (v := 3) d_M_ask_202 (by decide) ?_
      refine xp_goto (tgt := 207) d_M_ask_203 (by decide) ?_
      refine xm_iastore d_M_ask_207 rfl (by decide) hz rfl (by omega) (by decide) ?_
      refine xp_return_ d_M_ask_208 rfl ?_
      simp only [if_pos c199] at hp
      exact hp
  · skip
    unfold s_tl s_tl1 at hp
    simp only [if_neg cb] at hp
    refine xp_aload_n d_M_ask_137 rfl ?_
    refine xm_getR d_M_ask_138 fg_M_62 hz (by assumption) ?_
    refine xp_iload_n d_M_ask_141 rfl ?_
    refine xp_iload d_M_ask_142 rfl ?_
    refine xp_if_eq (tgt := 156) d_M_ask_144 (by decide) (fun c144 => absurd c144 cb) (fun c144 => ?_)
    refine xp_aload_n d_M_ask_147 rfl ?_
    refine xm_getR d_M_ask_148 fg_M_62 hz (by assumption) ?_
    refine xp_iload_n d_M_ask_151 rfl ?_
    refine xm_iaload d_M_ask_152 rfl (by decide) hz rfl (by omega) (by decide) ?_
    refine xp_goto (tgt := 164) d_M_ask_153 (by decide) ?_
    refine xm_iastore d_M_ask_164 rfl (by decide) hz rfl (by omega) (by decide) ?_
    refine xp_aload_n d_M_ask_165 rfl ?_
    refine xm_getR d_M_ask_166 fg_M_59 hz (by assumption) ?_
    refine xp_iload_n d_M_ask_169 rfl ?_
    refine xp_iload d_M_ask_170 rfl ?_
    refine xp_if_eq (tgt := 192) d_M_ask_172 (by decide) (fun c172 => absurd c172 cb) (fun c172 => ?_)
    refine xp_aload_n d_M_ask_175 rfl ?_
    refine xm_getR d_M_ask_176 fg_M_68 hz (by assumption) ?_
    refine xp_iload_n d_M_ask_179 rfl ?_
    refine xm_baload d_M_ask_180 rfl (by decide) hz rfl (by omega) (by decide) ?_
    refine xp_if_eq (tgt := 188) d_M_ask_181 (by decide) (fun c181 => ?_) (fun c181 => ?_)
    · skip
      refine xp_iconst (v := 1) d_M_ask_188 (by decide) ?_
      refine xp_goto (tgt := 207) d_M_ask_189 (by decide) ?_
      refine xm_iastore d_M_ask_207 rfl (by decide) hz rfl (by omega) (by decide) ?_
      refine xp_return_ d_M_ask_208 rfl ?_
      simp only [if_pos c181] at hp
      exact hp
    · skip
      refine xp_iconst (v := 2) d_M_ask_184 (by decide) ?_
      refine xp_goto (tgt := 207) d_M_ask_185 (by decide) ?_
      refine xm_iastore d_M_ask_207 rfl (by decide) hz rfl (by omega) (by decide) ?_
      refine xp_return_ d_M_ask_208 rfl ?_
      simp only [if_neg c181] at hp
      exact hp
set_option maxRecDepth 100000 in
set_option maxHeartbeats 1000000 in
theorem l_M_ask_85 (hm : x_mdl z P) {r : Nat} {w : Int32} (hr : r < 60) {f s : Nat} (hf : f ≤ 1) (ef : J 68 39 = nI f) (hs : s < 18) (es : J 68 43 = nI s) (hp : post none (z, x_mg I (s_a6 J w r f s), P)) : xp G M_M_ask 85 [(0, .ref 68), (1, .int (nI r)), (2, .int (s_sv w)), (3, .int (s_ob w)), (4, .int (s_lv w))] [] (z, x_mg I J, P) 0 0 post := by
  obtain ⟨hz, m_powered, m_next, m_polled, m_count, m_tokens, m_input, m_setpoint, m_gainP, m_gainI, m_sum, m_level, m_taken, m_from, m_target, m_what, m_given, m_state, m_tries, m_got, m_error, m_reply, m_kept, m_whose, m_object, m_seen, m_due, m_notedNode, m_notedObject, m_notedValue, m_notices, m_bytes, m_length⟩ := id hm
  unfold s_a6 s_a5 at hp
  refine xp_aload_n d_M_ask_85 rfl ?_
  refine xp_iload_n d_M_ask_86 rfl ?_
  refine xp_aload_n d_M_ask_87 rfl ?_
  refine xm_getR d_M_ask_88 fg_M_68 hz (by assumption) ?_
  refine xp_iload_n d_M_ask_91 rfl ?_
  refine xm_baload d_M_ask_92 rfl (by decide) hz rfl (by omega) (by decide) ?_
  refine xp_if_eq (tgt := 101) d_M_ask_93 (by decide) (fun c93 => ?_) (fun c93 => ?_)
  · skip
    refine xp_sipush (v := 128) d_M_ask_101 (by decide) ?_
    refine xp_iadd d_M_ask_104 ?_
    refine xp_iload_n d_M_ask_105 rfl ?_
    refine xp_iload_n d_M_ask_106 rfl ?_
    refine xp_iload d_M_ask_107 rfl ?_
    refine xp_aload_n d_M_ask_109 rfl ?_
    refine xm_getR d_M_ask_110 fg_M_71 hz (by assumption) ?_
    refine xp_iload_n d_M_ask_113 rfl ?_
    refine xm_iaload d_M_ask_114 rfl (by decide) hz rfl (by omega) (by decide) ?_
    refine xq_V5v d_M_ask_115 g_M_ask_169 (x_mA hz) rfl rfl ?_
    refine c_M_lay hm hf ef ?_
    refine ⟨rfl, ?_⟩
    refine xp_aload_n d_M_ask_118 rfl ?_
    refine xp_bipush (v := 6) d_M_ask_119 (by decide) ?_
    refine xp_aload_n d_M_ask_121 rfl ?_
    refine xm_getI d_M_ask_122 fg_M_107 hz ?_
    refine xp_aload_n d_M_ask_125 rfl ?_
    refine xm_getR d_M_ask_126 fg_M_50 hz (by assumption) ?_
    refine xp_iload_n d_M_ask_129 rfl ?_
    refine xm_iaload d_M_ask_130 rfl (by decide) hz rfl (by omega) (by decide) ?_
    refine xp_iconst (v := 1) d_M_ask_131 (by decide) ?_
    refine xq_V4r d_M_ask_132 g_M_ask_173 (x_mA hz) rfl rfl ?_
    refine c_M_carry hm hf (by rw [s_lay_ne (by omega)]; exact ef) hs (by rw [s_lay_ne (by omega)]; exact es) ?_
    refine ⟨_, rfl, ?_⟩
    refine xp_istore d_M_ask_135 (by decide) ?_
    have ea : s_a4 J w r f = s_lay J f (s_sv w + 128) (nI r) (s_ob w) (s_lv w) (J 89 r) := by unfold s_a4; simp only [if_pos c93]
    rw [ea] at hp
    refine xp_loc (lv' := [(0, .ref 68), (1, .int (nI r)), (5, .int _)]) ⟨rfl, rfl, rfl, trivial⟩ ?_
    exact l_M_ask_137 hm hr hp
  · skip
    refine xp_bipush (v := 64) d_M_ask_96 (by decide) ?_
    refine xp_goto (tgt := 104) d_M_ask_98 (by decide) ?_
    refine xp_iadd d_M_ask_104 ?_
    refine xp_iload_n d_M_ask_105 rfl ?_
    refine xp_iload_n d_M_ask_106 rfl ?_
    refine xp_iload d_M_ask_107 rfl ?_
    refine xp_aload_n d_M_ask_109 rfl ?_
    refine xm_getR d_M_ask_110 fg_M_71 hz (by assumption) ?_
    refine xp_iload_n d_M_ask_113 rfl ?_
    refine xm_iaload d_M_ask_114 rfl (by decide) hz rfl (by omega) (by decide) ?_
    refine xq_V5v d_M_ask_115 g_M_ask_169 (x_mA hz) rfl rfl ?_
    refine c_M_lay hm hf ef ?_
    refine ⟨rfl, ?_⟩
    refine xp_aload_n d_M_ask_118 rfl ?_
    refine xp_bipush (v := 6) d_M_ask_119 (by decide) ?_
    refine xp_aload_n d_M_ask_121 rfl ?_
    refine xm_getI d_M_ask_122 fg_M_107 hz ?_
    refine xp_aload_n d_M_ask_125 rfl ?_
    refine xm_getR d_M_ask_126 fg_M_50 hz (by assumption) ?_
    refine xp_iload_n d_M_ask_129 rfl ?_
    refine xm_iaload d_M_ask_130 rfl (by decide) hz rfl (by omega) (by decide) ?_
    refine xp_iconst (v := 1) d_M_ask_131 (by decide) ?_
    refine xq_V4r d_M_ask_132 g_M_ask_173 (x_mA hz) rfl rfl ?_
    refine c_M_carry hm hf (by rw [s_lay_ne (by omega)]; exact ef) hs (by rw [s_lay_ne (by omega)]; exact es) ?_
    refine ⟨_, rfl, ?_⟩
    refine xp_istore d_M_ask_135 (by decide) ?_
    have ea : s_a4 J w r f = s_lay J f (s_sv w + 64) (nI r) (s_ob w) (s_lv w) (J 89 r) := by unfold s_a4; simp only [if_neg c93]
    rw [ea] at hp
    refine xp_loc (lv' := [(0, .ref 68), (1, .int (nI r)), (5, .int _)]) ⟨rfl, rfl, rfl, trivial⟩ ?_
    exact l_M_ask_137 hm hr hp
set_option maxRecDepth 100000 in
set_option maxHeartbeats 1000000 in
theorem c_M_ask (hm : x_mdl z P) {r t m : Nat} (hr : r < 60) (ht : t < 6) (et : J 82 r = nI t) (em : J 68 22 = nI m) (hm6 : m ≤ 18) (hroom : ¬ s_sof J (nI t) m = 3 → m < 18) {f s : Nat} (hf : f = 0) (ef : J 68 39 = nI f) (hs : s < 18) (es : J 68 43 = nI s) (hp : post none (z, x_mg I (s_ask J r f s m), P)) : xp G M_M_ask 0 [(0, .ref 68), (1, .int (nI r))] [] (z, x_mg I J, P) 0 0 post := by
  obtain ⟨hz, m_powered, m_next, m_polled, m_count, m_tokens, m_input, m_setpoint, m_gainP, m_gainI, m_sum, m_level, m_taken, m_from, m_target, m_what, m_given, m_state, m_tries, m_got, m_error, m_reply, m_kept, m_whose, m_object, m_seen, m_due, m_notedNode, m_notedObject, m_notedValue, m_notices, m_bytes, m_length⟩ := id hm
  unfold s_ask at hp
  have hf1 : f ≤ 1 := by omega
  refine xp_aload_n d_M_ask_0 rfl ?_
  refine xm_getR d_M_ask_1 fg_M_53 hz (by assumption) ?_
  refine xp_iload_n d_M_ask_4 rfl ?_
  refine xm_iaload d_M_ask_5 rfl (by decide) hz rfl (by omega) (by decide) ?_
  refine xp_bipush (v := 8) d_M_ask_6 (by decide) ?_
  refine xp_irem d_M_ask_8 (by decide) ?_
  refine xp_istore_n d_M_ask_9 (by decide) ?_
  refine xp_aload_n d_M_ask_10 rfl ?_
  refine xm_getR d_M_ask_11 fg_M_53 hz (by assumption) ?_
  refine xp_iload_n d_M_ask_14 rfl ?_
  refine xm_iaload d_M_ask_15 rfl (by decide) hz rfl (by omega) (by decide) ?_
  refine xp_bipush (v := 8) d_M_ask_16 (by decide) ?_
  refine xp_idiv d_M_ask_18 (by decide) ?_
  refine xp_bipush (v := 8) d_M_ask_19 (by decide) ?_
  refine xp_irem d_M_ask_21 (by decide) ?_
  refine xp_istore_n d_M_ask_22 (by decide) ?_
  refine xp_aload_n d_M_ask_23 rfl ?_
  refine xm_getR d_M_ask_24 fg_M_53 hz (by assumption) ?_
  refine xp_iload_n d_M_ask_27 rfl ?_
  refine xm_iaload d_M_ask_28 rfl (by decide) hz rfl (by omega) (by decide) ?_
  refine xp_bipush (v := 64) d_M_ask_29 (by decide) ?_
  refine xp_idiv d_M_ask_31 (by decide) ?_
  refine xp_istore d_M_ask_32 (by decide) ?_
  refine xp_aload_n d_M_ask_34 rfl ?_
  refine xp_iload_n d_M_ask_35 rfl ?_
  refine xp_iload_n d_M_ask_36 rfl ?_
  refine xp_iload_n d_M_ask_37 rfl ?_
  refine xp_iload d_M_ask_38 rfl ?_
  refine xp_aload_n d_M_ask_40 rfl ?_
  refine xm_getR d_M_ask_41 fg_M_56 hz (by assumption) ?_
  refine xp_iload_n d_M_ask_44 rfl ?_
  refine xm_iaload d_M_ask_45 rfl (by decide) hz rfl (by omega) (by decide) ?_
  refine xq_V5v d_M_ask_46 g_M_ask_169 (x_mA hz) rfl rfl ?_
  refine c_M_lay hm hf1 ef ?_
  change _ ∧ xp G M_M_ask _ _ _ (z, x_mg I (s_a1 J r f), P) _ _ _
  refine ⟨rfl, ?_⟩
  refine xp_iconst (v := 0) d_M_ask_49 (by decide) ?_
  refine xp_istore d_M_ask_50 (by decide) ?_
  refine xp_aload_n d_M_ask_52 rfl ?_
  refine xp_iconst (v := 5) d_M_ask_53 (by decide) ?_
  refine xp_aload_n d_M_ask_54 rfl ?_
  refine xm_getR d_M_ask_55 fg_M_50 hz (by assumption) ?_
  refine xp_iload_n d_M_ask_58 rfl ?_
  refine xm_iaload d_M_ask_59 rfl (by decide) hz rfl (by omega) (by decide) ?_
  refine xp_aload_n d_M_ask_60 rfl ?_
  refine xm_getI d_M_ask_61 fg_M_107 hz ?_
  refine xp_iconst (v := 1) d_M_ask_64 (by decide) ?_
  refine xq_V4r d_M_ask_65 g_M_ask_173 (x_mA hz) rfl rfl ?_
  refine c_M_carry hm hf1 ((s_lay_ne (by omega)).trans ef) hs ((s_lay_ne (by omega)).trans es) ?_
  change ∃ w, _ = some w ∧ xp G M_M_ask _ _ _ (z, x_mg I (s_a2 J r f s), P) _ _ _
  refine ⟨_, rfl, ?_⟩
  refine xp_if_eq (tgt := 137) d_M_ask_68 (by decide) (fun c68 => ?_) (fun c68 => ?_)
  · skip
    simp only [if_pos c68] at hp
    refine xp_loc (lv' := [(0, .ref 68), (1, .int (nI r)), (5, .int 0)]) ⟨rfl, rfl, rfl, trivial⟩ ?_
    exact l_M_ask_137 hm hr hp
  · skip
    have n82 : s_a2 J r f s 82 r = nI t := (s_caJ_ne (by omega) (by omega) (by omega)).trans ((s_lay_ne (by omega)).trans et)
    have n22 : s_a2 J r f s 68 22 = nI m := (s_caJ_ne (by omega) (by omega) (by omega)).trans ((s_lay_ne (by omega)).trans em)
    have n43 : s_a2 J r f s 68 43 = nI s := (s_caJ_ne (by omega) (by omega) (by omega)).trans ((s_lay_ne (by omega)).trans es)
    have n90 : ¬ s_sof (s_a2 J r f s) (nI t) m = 3 → m < 18 := by rw [s_sof_row (J' := s_a2 J r f s) (J := J) (fun k => (s_caJ_ne (by omega) (by omega) (by omega)).trans (s_lay_ne (by omega)))]; exact hroom
    refine xp_aload_n d_M_ask_71 rfl ?_
    refine xm_getR d_M_ask_72 fg_M_65 hz (by assumption) ?_
    refine xp_iload_n d_M_ask_75 rfl ?_
    refine xm_baload d_M_ask_76 rfl (by decide) hz rfl (by omega) (by decide) ?_
    refine xp_if_ne (tgt := 85) d_M_ask_77 (by decide) (fun c77 => ?_) (fun c77 => ?_)
    · skip
      refine xp_loc (lv' := [(0, .ref 68), (1, .int (nI r)), (2, .int (s_sv (J 83 r))), (3, .int (s_ob (J 83 r))), (4, .int (s_lv (J 83 r)))]) ⟨rfl, rfl, rfl, rfl, rfl, trivial⟩ ?_
      simp only [if_neg c68] at hp
      first
        | (have c8 : ¬ s_a2 J r f s 87 r = 0 := c77
           rw [show s_a3 J r f s m = s_a2 J r f s from if_neg c8] at hp
           exact l_M_ask_85 hm hr (by omega) s_caJ_39 hs n43 hp)
        | (have c8 : s_a2 J r f s 87 r = 0 := c77
           rw [show s_a3 J r f s m = s_work (s_a2 J r f s) r m from if_pos c8] at hp
           exact l_M_ask_85 hm hr (by omega) ((s_work_ne (by omega) (by omega)).trans s_caJ_39) hs ((s_work_ne (by omega) (by omega)).trans n43) hp)
    · skip
      refine xp_aload_n d_M_ask_80 rfl ?_
      refine xp_iload_n d_M_ask_81 rfl ?_
      refine xq_V1v d_M_ask_82 g_M_ask_177 (x_mA hz) rfl rfl ?_
      refine c_M_work hm hr ht n82 n22 hm6 n90 ?_
      refine ⟨rfl, ?_⟩
      refine xp_loc (lv' := [(0, .ref 68), (1, .int (nI r)), (2, .int (s_sv (J 83 r))), (3, .int (s_ob (J 83 r))), (4, .int (s_lv (J 83 r)))]) ⟨rfl, rfl, rfl, rfl, rfl, trivial⟩ ?_
      simp only [if_neg c68] at hp
      first
        | (have c8 : ¬ s_a2 J r f s 87 r = 0 := c77
           rw [show s_a3 J r f s m = s_a2 J r f s from if_neg c8] at hp
           exact l_M_ask_85 hm hr (by omega) s_caJ_39 hs n43 hp)
        | (have c8 : s_a2 J r f s 87 r = 0 := c77
           rw [show s_a3 J r f s m = s_work (s_a2 J r f s) r m from if_pos c8] at hp
           exact l_M_ask_85 hm hr (by omega) ((s_work_ne (by omega) (by omega)).trans s_caJ_39) hs ((s_work_ne (by omega) (by omega)).trans n43) hp)
end partA8
