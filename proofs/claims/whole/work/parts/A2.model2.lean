def s_noV (J : xI) (n w : Int32) (made subs : Nat) : Int32 := if s_isN n = 0 then -1 else if w = 0 then (if J 69 (k_tn n) = 0 then 0 else 1) else if w = 1 then J 70 (k_tn n) else if w = 2 then J 71 (k_tn n) else if w = 3 then J 72 (k_tn n) else if w = 4 then s_wait J n made else if w = 5 then J 73 (k_tn n) else if w = 6 then s_sof J n subs else if w = 7 then J 78 (k_tn n) else -1
def s_seV (J : xI) (n l : Int32) : Int32 := if s_isN n = 0 then 0 else if s_out l 1 16 = 0 then (if J 80 (17 * k_tn n + k_tn l) = 0 then 0 else 1) else 0
def s_leV (J : xI) (n l : Int32) : Int32 := if s_seV J n l = 0 then 0 else J 79 (17 * k_tn n + k_tn l)
def s_stV (J : xI) (r : Int32) : Int32 := if r < 0 then -1 else if r < J 68 12 then J 85 (k_tn r) else -1
def s_anV (J : xI) (r : Int32) : Int32 := if r < 0 then 0 else if J 68 12 ≤ r then 0 else if J 85 (k_tn r) = 1 then J 89 (k_tn r) else 0
def s_ntV (J : xI) (n w : Int32) : Int32 := if s_isN n = 0 then -1 else if s_out w 0 3 = 0 then (if 3 ≤ w then (if w = 0 then J 95 (k_tn n) else if w = 1 then J 96 (k_tn n) else if w = 2 then J 97 (k_tn n) else J 98 (k_tn n)) else if J 98 (k_tn n) = 0 then -1 else if w = 0 then J 95 (k_tn n) else if w = 1 then J 96 (k_tn n) else if w = 2 then J 97 (k_tn n) else J 98 (k_tn n)) else -1
def s_frV (J : xI) (w i : Int32) : Int32 := if s_out w 0 1 = 0 then (if i = -1 then J 100 (k_tn w) else if i < 0 then -1 else if i < J 100 (k_tn w) then J 99 (18 * k_tn w + k_tn i) else -1) else -1
def s_rqV (J : xI) (n t w : Int32) (made : Nat) : Int32 := if s_isN n = 0 then -1 else if s_isN t = 0 then -1 else if n = t then -1 else if s_out w 0 2047 = 0 then (if J 68 12 = 60 then -2 else if s_wait J n made = 4 then -2 else J 68 12 + 1 - 1) else -1
abbrev s_rq1 (J : xI) (n t w v : Int32) (made : Nat) : xI := x_up (x_up (x_up (x_up J 81 made n) 82 made t) 83 made w) 84 made v
def s_rqJ (J : xI) (n t w v : Int32) (made : Nat) : xI := if s_isN n = 0 then J else if s_isN t = 0 then J else if n = t then J else if s_out w 0 2047 = 0 then (if J 68 12 = 60 then J else if s_wait J n made = 4 then J else x_up (s_rq1 J n t w v made) 68 12 (J 68 12 + 1)) else J
theorem s_seV_ix {J : xI} {n l : Int32} (h : ¬ s_seV J n l = 0) : (∃ j, j ≤ 5 ∧ n = nI j) ∧ ∃ k, 1 ≤ k ∧ k ≤ 16 ∧ l = nI k := by
  unfold s_seV at h
  by_cases h1 : s_isN n = 0
  · exact absurd (if_pos h1) h
  rw [if_neg h1] at h
  by_cases h2 : s_out l 1 16 = 0
  · exact ⟨s_isN_ix h1, s_out_ix (A := 1) (B := 16) (by decide) (by decide) h2⟩
  · exact absurd (if_neg h2) h
/-- the subscriptions are packed anew, but those of n -/
abbrev s_c1 (J : xI) (s k : Nat) : xI := x_up J 90 s (J 90 k)
abbrev s_c2 (J : xI) (s k : Nat) : xI := x_up (s_c1 J s k) 91 s (s_c1 J s k 91 k)
abbrev s_c3 (J : xI) (s k : Nat) : xI := x_up (s_c2 J s k) 92 s (s_c2 J s k 92 k)
abbrev s_c4 (J : xI) (s k : Nat) : xI := x_up (s_c3 J s k) 93 s (s_c3 J s k 93 k)
def s_cp (J : xI) (s k : Nat) : xI := x_up (s_c4 J s k) 94 s (s_c4 J s k 94 k)
def s_pk (J : xI) (n : Int32) : Nat → xI × Nat
  | 0 => (J, 0)
  | k + 1 => if (s_pk J n k).1 90 k = n then s_pk J n k else (s_cp (s_pk J n k).1 (s_pk J n k).2 k, (s_pk J n k).2 + 1)
theorem s_pk_le (J : xI) (n : Int32) : ∀ k, (s_pk J n k).2 ≤ k
  | 0 => Nat.le_refl _
  | k + 1 => by
    have ih := s_pk_le J n k
    unfold s_pk
    by_cases h : (s_pk J n k).1 90 k = n
    · rw [if_pos h]
      omega
    · rw [if_neg h]
      dsimp only
      omega
theorem s_cp_68 {J : xI} {s k a j : Nat} (h : a < 90 ∨ 94 < a) : s_cp J s k a j = J a j := by
  unfold s_cp
  rw [x_up_ne (by omega)]
  exact (x_up_ne (by omega)).trans ((x_up_ne (by omega)).trans ((x_up_ne (by omega)).trans (x_up_ne (by omega))))
theorem s_pk_68 {J : xI} {n : Int32} {a j : Nat} (h : a < 90 ∨ 94 < a) : ∀ k, (s_pk J n k).1 a j = J a j
  | 0 => rfl
  | k + 1 => by
    unfold s_pk
    by_cases hc : (s_pk J n k).1 90 k = n
    · rw [if_pos hc]
      exact s_pk_68 h k
    · rw [if_neg hc]
      dsimp only
      rw [s_cp_68 h]
      exact s_pk_68 h k
theorem s_c4_94 {J : xI} {s k j : Nat} : s_c4 J s k 94 j = J 94 j := (x_up_ne (by omega)).trans ((x_up_ne (by omega)).trans ((x_up_ne (by omega)).trans (x_up_ne (by omega))))
theorem s_pk_94 {J : xI} {n : Int32} (h : ∀ j, J 94 j = 0 ∨ J 94 j = 1) : ∀ k j, (s_pk J n k).1 94 j = 0 ∨ (s_pk J n k).1 94 j = 1
  | 0, j => h j
  | k + 1, j => by
    unfold s_pk
    by_cases hc : (s_pk J n k).1 90 k = n
    · rw [if_pos hc]
      exact s_pk_94 h k j
    · rw [if_neg hc]
      dsimp only
      unfold s_cp
      by_cases hj : j = (s_pk J n k).2
      · rw [x_up_eq ⟨rfl, hj⟩, s_c4_94]
        exact s_pk_94 h k k
      · rw [x_up_ne (Or.inr hj), s_c4_94]
        exact s_pk_94 h k j
abbrev s_on (J : xI) (n : Nat) : xI := x_up (x_up (x_up (x_up (x_up J 69 n 1) 70 n (nI n)) 71 n (nI n)) 72 n 0) 78 n 0
def s_pwV (J : xI) (n on : Int32) : Int32 := if s_isN n = 0 then 0 else if J 69 (k_tn n) = on then 0 else 1
def s_pwJ (J : xI) (n on : Int32) (subs : Nat) : xI := if s_isN n = 0 then J else if J 69 (k_tn n) = on then J else if on = 0 then (if x_up J 69 (k_tn n) 0 68 32 = n then x_up (x_up (x_up J 69 (k_tn n) 0) 68 32 (-1)) 68 36 0 else x_up J 69 (k_tn n) 0) else x_up (s_pk (s_on J (k_tn n)) n subs).1 68 22 (nI (s_pk (s_on J (k_tn n)) n subs).2)
section partA2
variable {G : xG} {z : Nat} {I J : xI} {P : xP} {post : Option Value → xH → Prop} {h0 : xH}
set_option maxRecDepth 100000 in
set_option maxHeartbeats 1000000 in
theorem c_M_node (hm : x_mdl z P) {n w : Int32} {made subs : Nat} (em : J 68 12 = nI made) (hm6 : made ≤ 60) (es : J 68 22 = nI subs) (hs : subs ≤ 18) (hp : post (some (.int (s_noV J n w made subs))) (z, x_mg I J, P)) : xp G M_M_node 0 [(0, .ref 68), (1, .int n), (2, .int w)] [] (z, x_mg I J, P) 0 0 post := by
  obtain ⟨hz, m_powered, m_next, m_polled, m_count, m_tokens, m_input, m_setpoint, m_gainP, m_gainI, m_sum, m_level, m_taken, m_from, m_target, m_what, m_given, m_state, m_tries, m_got, m_error, m_reply, m_kept, m_whose, m_object, m_seen, m_due, m_notedNode, m_notedObject, m_notedValue, m_notices, m_bytes, m_length⟩ := id hm
  unfold s_noV at hp
  refine xp_iload_n d_M_node_0 rfl ?_
  refine xq_S1r d_M_node_1 g_M_node_111 rfl rfl ?_
  refine c_M_isNode ?_
  refine ⟨_, rfl, ?_⟩
  refine xp_if_ne (tgt := 9) d_M_node_4 (by decide) (fun c4 => ?_) (fun c4 => ?_)
  · skip
    obtain ⟨j, hj, rfl⟩ := s_isN_ix c4
    simp only [k_tn_nI (show j < 1000 by omega)] at hp
    refine xp_iload_n d_M_node_9 rfl ?_
    refine xp_sw1 0 (tgt := 56) (off := 46) d_M_node_10 (by decide) (by decide) (by decide) (fun s10_0 => ?_) (fun s10_0 => ?_)
    · skip
      refine xp_aload_n d_M_node_56 rfl ?_
      refine xm_getR d_M_node_57 fg_M_7 hz (by assumption) ?_
      refine xp_iload_n d_M_node_60 rfl ?_
      refine xm_baload d_M_node_61 rfl (by decide) hz rfl (by omega) (by decide) ?_
      refine xp_if_eq (tgt := 69) d_M_node_62 (by decide) (fun c62 => ?_) (fun c62 => ?_)
      · skip
        refine xp_iconst (v := 0) d_M_node_69 (by decide) ?_
        refine xp_ireturn d_M_node_70 rfl rfl ?_
        simp only [if_neg c4, if_pos s10_0, if_pos c62] at hp
        exact hp
      · skip
        refine xp_iconst (v := 1) d_M_node_65 (by decide) ?_
        refine xp_goto (tgt := 70) d_M_node_66 (by decide) ?_
        refine xp_ireturn d_M_node_70 rfl rfl ?_
        simp only [if_neg c4, if_pos s10_0, if_neg c62] at hp
        exact hp
    · skip
      refine xp_sw1 1 (tgt := 71) (off := 61) d_M_node_10 (by decide) (by decide) (by decide) (fun s10_1 => ?_) (fun s10_1 => ?_)
      · skip
        refine xp_aload_n d_M_node_71 rfl ?_
        refine xm_getR d_M_node_72 fg_M_13 hz (by assumption) ?_
        refine xp_iload_n d_M_node_75 rfl ?_
        refine xm_iaload d_M_node_76 rfl (by decide) hz rfl (by omega) (by decide) ?_
        refine xp_ireturn d_M_node_77 rfl rfl ?_
        simp only [if_neg c4, if_neg s10_0, if_pos s10_1] at hp
        exact hp
      · skip
        refine xp_sw1 2 (tgt := 78) (off := 68) d_M_node_10 (by decide) (by decide) (by decide) (fun s10_2 => ?_) (fun s10_2 => ?_)
        · skip
          refine xp_aload_n d_M_node_78 rfl ?_
          refine xm_getR d_M_node_79 fg_M_17 hz (by assumption) ?_
          refine xp_iload_n d_M_node_82 rfl ?_
          refine xm_iaload d_M_node_83 rfl (by decide) hz rfl (by omega) (by decide) ?_
          refine xp_ireturn d_M_node_84 rfl rfl ?_
          simp only [if_neg c4, if_neg s10_0, if_neg s10_1, if_pos s10_2] at hp
          exact hp
        · skip
          refine xp_sw1 3 (tgt := 85) (off := 75) d_M_node_10 (by decide) (by decide) (by decide) (fun s10_3 => ?_) (fun s10_3 => ?_)
          · skip
            refine xp_aload_n d_M_node_85 rfl ?_
            refine xm_getR d_M_node_86 fg_M_20 hz (by assumption) ?_
            refine xp_iload_n d_M_node_89 rfl ?_
            refine xm_iaload d_M_node_90 rfl (by decide) hz rfl (by omega) (by decide) ?_
            refine xp_ireturn d_M_node_91 rfl rfl ?_
            simp only [if_neg c4, if_neg s10_0, if_neg s10_1, if_neg s10_2, if_pos s10_3] at hp
            exact hp
          · skip
            refine xp_sw1 4 (tgt := 92) (off := 82) d_M_node_10 (by decide) (by decide) (by decide) (fun s10_4 => ?_) (fun s10_4 => ?_)
            · skip
              refine xp_aload_n d_M_node_92 rfl ?_
              refine xp_iload_n d_M_node_93 rfl ?_
              refine xq_V1r d_M_node_94 g_M_node_128 (x_mA hz) rfl rfl ?_
              refine c_M_waiting hm em hm6 ?_
              refine ⟨_, rfl, ?_⟩
              refine xp_ireturn d_M_node_97 rfl rfl ?_
              simp only [if_neg c4, if_neg s10_0, if_neg s10_1, if_neg s10_2, if_neg s10_3, if_pos s10_4] at hp
              exact hp
            · skip
              refine xp_sw1 5 (tgt := 98) (off := 88) d_M_node_10 (by decide) (by decide) (by decide) (fun s10_5 => ?_) (fun s10_5 => ?_)
              · skip
                refine xp_aload_n d_M_node_98 rfl ?_
                refine xm_getR d_M_node_99 fg_M_23 hz (by assumption) ?_
                refine xp_iload_n d_M_node_102 rfl ?_
                refine xm_iaload d_M_node_103 rfl (by decide) hz rfl (by omega) (by decide) ?_
                refine xp_ireturn d_M_node_104 rfl rfl ?_
                simp only [if_neg c4, if_neg s10_0, if_neg s10_1, if_neg s10_2, if_neg s10_3, if_neg s10_4, if_pos s10_5] at hp
                exact hp
              · skip
                refine xp_sw1 6 (tgt := 105) (off := 95) d_M_node_10 (by decide) (by decide) (by decide) (fun s10_6 => ?_) (fun s10_6 => ?_)
                · skip
                  refine xp_aload_n d_M_node_105 rfl ?_
                  refine xp_iload_n d_M_node_106 rfl ?_
                  refine xq_V1r d_M_node_107 g_M_node_159 (x_mA hz) rfl rfl ?_
                  refine c_M_subscriptionsOf hm es hs ?_
                  refine ⟨_, rfl, ?_⟩
                  refine xp_ireturn d_M_node_110 rfl rfl ?_
                  simp only [if_neg c4, if_neg s10_0, if_neg s10_1, if_neg s10_2, if_neg s10_3, if_neg s10_4, if_neg s10_5, if_pos s10_6] at hp
                  exact hp
                · skip
                  refine xp_sw1 7 (tgt := 111) (off := 101) d_M_node_10 (by decide) (by decide) (by decide) (fun s10_7 => ?_) (fun s10_7 => ?_)
                  · skip
                    refine xp_aload_n d_M_node_111 rfl ?_
                    refine xm_getR d_M_node_112 fg_M_38 hz (by assumption) ?_
                    refine xp_iload_n d_M_node_115 rfl ?_
                    refine xm_iaload d_M_node_116 rfl (by decide) hz rfl (by omega) (by decide) ?_
                    refine xp_ireturn d_M_node_117 rfl rfl ?_
                    simp only [if_neg c4, if_neg s10_0, if_neg s10_1, if_neg s10_2, if_neg s10_3, if_neg s10_4, if_neg s10_5, if_neg s10_6, if_pos s10_7] at hp
                    exact hp
                  · skip
                    have ns10_0 := x_neT s10_0 (show (0 : Int32).toInt = 0 by decide)
                    have ns10_1 := x_neT s10_1 (show (1 : Int32).toInt = 1 by decide)
                    have ns10_2 := x_neT s10_2 (show (2 : Int32).toInt = 2 by decide)
                    have ns10_3 := x_neT s10_3 (show (3 : Int32).toInt = 3 by decide)
                    have ns10_4 := x_neT s10_4 (show (4 : Int32).toInt = 4 by decide)
                    have ns10_5 := x_neT s10_5 (show (5 : Int32).toInt = 5 by decide)
                    have ns10_6 := x_neT s10_6 (show (6 : Int32).toInt = 6 by decide)
                    have ns10_7 := x_neT s10_7 (show (7 : Int32).toInt = 7 by decide)
                    refine xp_tableOut (tgt := 118) d_M_node_10 (by omega) (by decide) ?_
                    refine xp_iconst (v := -1) d_M_node_118 (by decide) ?_
                    refine xp_ireturn d_M_node_119 rfl rfl ?_
                    simp only [if_neg c4, if_neg s10_0, if_neg s10_1, if_neg s10_2, if_neg s10_3, if_neg s10_4, if_neg s10_5, if_neg s10_6, if_neg s10_7] at hp
                    exact hp
  · skip
    refine xp_iconst (v := -1) d_M_node_7 (by decide) ?_
    refine xp_ireturn d_M_node_8 rfl rfl ?_
    simp only [if_pos c4] at hp
    exact hp
set_option maxRecDepth 100000 in
set_option maxHeartbeats 1000000 in
theorem c_M_set (hm : x_mdl z P) {n l : Int32} (hp : post (some (.int (s_seV J n l))) (z, x_mg I J, P)) : xp G M_M_set 0 [(0, .ref 68), (1, .int n), (2, .int l)] [] (z, x_mg I J, P) 0 0 post := by
  obtain ⟨hz, m_powered, m_next, m_polled, m_count, m_tokens, m_input, m_setpoint, m_gainP, m_gainI, m_sum, m_level, m_taken, m_from, m_target, m_what, m_given, m_state, m_tries, m_got, m_error, m_reply, m_kept, m_whose, m_object, m_seen, m_due, m_notedNode, m_notedObject, m_notedValue, m_notices, m_bytes, m_length⟩ := id hm
  unfold s_seV at hp
  refine xp_iload_n d_M_set_0 rfl ?_
  refine xq_S1r d_M_set_1 g_M_set_111 rfl rfl ?_
  refine c_M_isNode ?_
  refine ⟨_, rfl, ?_⟩
  refine xp_if_eq (tgt := 35) d_M_set_4 (by decide) (fun c4 => ?_) (fun c4 => ?_)
  · skip
    refine xp_iconst (v := 0) d_M_set_35 (by decide) ?_
    refine xp_ireturn d_M_set_36 rfl (x_bit (by first | exact Or.inl rfl | exact Or.inr rfl | assumption)).1 ?_
    simp only [if_pos c4] at hp
    exact hp
  · skip
    obtain ⟨j, hj, rfl⟩ := s_isN_ix c4
    simp only [k_tn_nI (show j < 1000 by omega)] at hp
    refine xp_iload_n d_M_set_7 rfl ?_
    refine xp_iconst (v := 1) d_M_set_8 (by decide) ?_
    refine xp_bipush (v := 16) d_M_set_9 (by decide) ?_
    refine xq_S3r d_M_set_11 g_M_set_121 rfl rfl ?_
    refine c_M_outside ?_
    refine ⟨_, rfl, ?_⟩
    refine xp_if_ne (tgt := 35) d_M_set_14 (by decide) (fun c14 => ?_) (fun c14 => ?_)
    · skip
      refine xp_iconst (v := 0) d_M_set_35 (by decide) ?_
      refine xp_ireturn d_M_set_36 rfl (x_bit (by first | exact Or.inl rfl | exact Or.inr rfl | assumption)).1 ?_
      simp only [if_neg c4, if_neg c14] at hp
      exact hp
    · skip
      obtain ⟨k, hk1, hk, rfl⟩ := s_out_ix (A := 1) (B := 16) (by decide) (by decide) c14
      simp only [k_tn_nI (show k < 1000 by omega)] at hp
      refine xp_aload_n d_M_set_17 rfl ?_
      refine xm_getR d_M_set_18 fg_M_44 hz (by assumption) ?_
      refine xp_bipush (v := 17) d_M_set_21 (by decide) ?_
      refine xp_iload_n d_M_set_23 rfl ?_
      refine xp_imul d_M_set_24 ?_
      refine xp_iload_n d_M_set_25 rfl ?_
      refine xp_iadd d_M_set_26 ?_
      refine xm_baload d_M_set_27 rfl (by decide) hz (x_mulA 17 j k) (by omega) (by decide) ?_
      refine xp_if_eq (tgt := 35) d_M_set_28 (by decide) (fun c28 => ?_) (fun c28 => ?_)
      · skip
        refine xp_iconst (v := 0) d_M_set_35 (by decide) ?_
        refine xp_ireturn d_M_set_36 rfl (x_bit (by first | exact Or.inl rfl | exact Or.inr rfl | assumption)).1 ?_
        simp only [if_neg c4, if_pos c14, if_pos c28] at hp
        exact hp
      · skip
        refine xp_iconst (v := 1) d_M_set_31 (by decide) ?_
        refine xp_goto (tgt := 36) d_M_set_32 (by decide) ?_
        refine xp_ireturn d_M_set_36 rfl (x_bit (by first | exact Or.inl rfl | exact Or.inr rfl | assumption)).1 ?_
        simp only [if_neg c4, if_pos c14, if_neg c28] at hp
        exact hp
set_option maxRecDepth 100000 in
set_option maxHeartbeats 1000000 in
theorem c_M_level (hm : x_mdl z P) {n l : Int32} (hp : post (some (.int (s_leV J n l))) (z, x_mg I J, P)) : xp G M_M_level 0 [(0, .ref 68), (1, .int n), (2, .int l)] [] (z, x_mg I J, P) 0 0 post := by
  obtain ⟨hz, m_powered, m_next, m_polled, m_count, m_tokens, m_input, m_setpoint, m_gainP, m_gainI, m_sum, m_level, m_taken, m_from, m_target, m_what, m_given, m_state, m_tries, m_got, m_error, m_reply, m_kept, m_whose, m_object, m_seen, m_due, m_notedNode, m_notedObject, m_notedValue, m_notices, m_bytes, m_length⟩ := id hm
  unfold s_leV at hp
  refine xp_aload_n d_M_level_0 rfl ?_
  refine xp_iload_n d_M_level_1 rfl ?_
  refine xp_iload_n d_M_level_2 rfl ?_
  refine xq_V2r d_M_level_3 g_M_level_248 (x_mA hz) rfl rfl ?_
  refine c_M_set hm ?_
  refine ⟨_, rfl, ?_⟩
  refine xp_if_eq (tgt := 23) d_M_level_6 (by decide) (fun c6 => ?_) (fun c6 => ?_)
  · skip
    refine xp_iconst (v := 0) d_M_level_23 (by decide) ?_
    refine xp_ireturn d_M_level_24 rfl rfl ?_
    simp only [if_pos c6] at hp
    exact hp
  · skip
    obtain ⟨⟨j, hj, rfl⟩, k, hk1, hk, rfl⟩ := s_seV_ix c6
    simp only [k_tn_nI (show j < 1000 by omega), k_tn_nI (show k < 1000 by omega)] at hp
    refine xp_aload_n d_M_level_9 rfl ?_
    refine xm_getR d_M_level_10 fg_M_41 hz (by assumption) ?_
    refine xp_bipush (v := 17) d_M_level_13 (by decide) ?_
    refine xp_iload_n d_M_level_15 rfl ?_
    refine xp_imul d_M_level_16 ?_
    refine xp_iload_n d_M_level_17 rfl ?_
    refine xp_iadd d_M_level_18 ?_
    refine xm_iaload d_M_level_19 rfl (by decide) hz (x_mulA 17 j k) (by omega) (by decide) ?_
    refine xp_goto (tgt := 24) d_M_level_20 (by decide) ?_
    refine xp_ireturn d_M_level_24 rfl rfl ?_
    simp only [if_neg c6] at hp
    exact hp
set_option maxRecDepth 100000 in
set_option maxHeartbeats 1000000 in
theorem c_M_state (hm : x_mdl z P) {r : Int32} {made : Nat} (em : J 68 12 = nI made) (hm6 : made ≤ 60) (hp : post (some (.int (s_stV J r))) (z, x_mg I J, P)) : xp G M_M_state 0 [(0, .ref 68), (1, .int r)] [] (z, x_mg I J, P) 0 0 post := by
  obtain ⟨hz, m_powered, m_next, m_polled, m_count, m_tokens, m_input, m_setpoint, m_gainP, m_gainI, m_sum, m_level, m_taken, m_from, m_target, m_what, m_given, m_state, m_tries, m_got, m_error, m_reply, m_kept, m_whose, m_object, m_seen, m_due, m_notedNode, m_notedObject, m_notedValue, m_notices, m_bytes, m_length⟩ := id hm
  unfold s_stV at hp
  refine xp_iload_n d_M_state_0 rfl ?_
  refine xp_if_lt (tgt := 12) d_M_state_1 (by decide) (fun c1 => ?_) (fun c1 => ?_)
  · skip
    refine xp_iconst (v := -1) d_M_state_12 (by decide) ?_
    refine xp_goto (tgt := 22) d_M_state_13 (by decide) ?_
    refine xp_ireturn d_M_state_22 rfl rfl ?_
    simp only [if_pos c1] at hp
    exact hp
  · skip
    refine xp_iload_n d_M_state_4 rfl ?_
    refine xp_aload_n d_M_state_5 rfl ?_
    refine xm_getI d_M_state_6 fg_M_125 hz ?_
    refine xp_icmp_lt (tgt := 16) d_M_state_9 (by decide) (fun c9 => ?_) (fun c9 => ?_)
    · skip
      obtain ⟨j, hj, rfl⟩ := nI_of c1
      have hj2 : j < made := by have q := c9; rw [em] at q; exact (nI_ltI hj (by omega)).mp q
      simp only [k_tn_nI (show j < 1000 by omega)] at hp
      refine xp_aload_n d_M_state_16 rfl ?_
      refine xm_getR d_M_state_17 fg_M_59 hz (by assumption) ?_
      refine xp_iload_n d_M_state_20 rfl ?_
      refine xm_iaload d_M_state_21 rfl (by decide) hz rfl (by omega) (by decide) ?_
      refine xp_ireturn d_M_state_22 rfl rfl ?_
      simp only [if_neg c1, if_pos c9] at hp
      exact hp
    · skip
      refine xp_iconst (v := -1) d_M_state_12 (by decide) ?_
      refine xp_goto (tgt := 22) d_M_state_13 (by decide) ?_
      refine xp_ireturn d_M_state_22 rfl rfl ?_
      simp only [if_neg c1, if_neg c9] at hp
      exact hp
set_option maxRecDepth 100000 in
set_option maxHeartbeats 1000000 in
theorem c_M_answer (hm : x_mdl z P) {r : Int32} {made : Nat} (em : J 68 12 = nI made) (hm6 : made ≤ 60) (hp : post (some (.int (s_anV J r))) (z, x_mg I J, P)) : xp G M_M_answer 0 [(0, .ref 68), (1, .int r)] [] (z, x_mg I J, P) 0 0 post := by
  obtain ⟨hz, m_powered, m_next, m_polled, m_count, m_tokens, m_input, m_setpoint, m_gainP, m_gainI, m_sum, m_level, m_taken, m_from, m_target, m_what, m_given, m_state, m_tries, m_got, m_error, m_reply, m_kept, m_whose, m_object, m_seen, m_due, m_notedNode, m_notedObject, m_notedValue, m_notices, m_bytes, m_length⟩ := id hm
  unfold s_anV at hp
  refine xp_iload_n d_M_answer_0 rfl ?_
  refine xp_if_lt (tgt := 22) d_M_answer_1 (by decide) (fun c1 => ?_) (fun c1 => ?_)
  · skip
    refine xp_iconst (v := 0) d_M_answer_22 (by decide) ?_
    refine xp_goto (tgt := 32) d_M_answer_23 (by decide) ?_
    refine xp_ireturn d_M_answer_32 rfl rfl ?_
    simp only [if_pos c1] at hp
    exact hp
  · skip
    refine xp_iload_n d_M_answer_4 rfl ?_
    refine xp_aload_n d_M_answer_5 rfl ?_
    refine xm_getI d_M_answer_6 fg_M_125 hz ?_
    refine xp_icmp_ge (tgt := 22) d_M_answer_9 (by decide) (fun c9 => ?_) (fun c9 => ?_)
    · skip
      refine xp_iconst (v := 0) d_M_answer_22 (by decide) ?_
      refine xp_goto (tgt := 32) d_M_answer_23 (by decide) ?_
      refine xp_ireturn d_M_answer_32 rfl rfl ?_
      simp only [if_neg c1, if_pos c9] at hp
      exact hp
    · skip
      obtain ⟨j, hj, rfl⟩ := nI_of c1
      have hj2 : j < made := Nat.lt_of_not_le (fun e => c9 (by rw [em]; exact nI_le e hj))
      simp only [k_tn_nI (show j < 1000 by omega)] at hp
      refine xp_aload_n d_M_answer_12 rfl ?_
      refine xm_getR d_M_answer_13 fg_M_59 hz (by assumption) ?_
      refine xp_iload_n d_M_answer_16 rfl ?_
      refine xm_iaload d_M_answer_17 rfl (by decide) hz rfl (by omega) (by decide) ?_
      refine xp_iconst (v := 1) d_M_answer_18 (by decide) ?_
      refine xp_icmp_eq (tgt := 26) d_M_answer_19 (by decide) (fun c19 => ?_) (fun c19 => ?_)
      · skip
        refine xp_aload_n d_M_answer_26 rfl ?_
        refine xm_getR d_M_answer_27 fg_M_71 hz (by assumption) ?_
        refine xp_iload_n d_M_answer_30 rfl ?_
        refine xm_iaload d_M_answer_31 rfl (by decide) hz rfl (by omega) (by decide) ?_
        refine xp_ireturn d_M_answer_32 rfl rfl ?_
        simp only [if_neg c1, if_neg c9, if_pos c19] at hp
        exact hp
      · skip
        refine xp_iconst (v := 0) d_M_answer_22 (by decide) ?_
        refine xp_goto (tgt := 32) d_M_answer_23 (by decide) ?_
        refine xp_ireturn d_M_answer_32 rfl rfl ?_
        simp only [if_neg c1, if_neg c9, if_neg c19] at hp
        exact hp
set_option maxRecDepth 100000 in
set_option maxHeartbeats 1000000 in
theorem c_M_noted (hm : x_mdl z P) {n w : Int32} (hp : post (some (.int (s_ntV J n w))) (z, x_mg I J, P)) : xp G M_M_noted 0 [(0, .ref 68), (1, .int n), (2, .int w)] [] (z, x_mg I J, P) 0 0 post := by
  obtain ⟨hz, m_powered, m_next, m_polled, m_count, m_tokens, m_input, m_setpoint, m_gainP, m_gainI, m_sum, m_level, m_taken, m_from, m_target, m_what, m_given, m_state, m_tries, m_got, m_error, m_reply, m_kept, m_whose, m_object, m_seen, m_due, m_notedNode, m_notedObject, m_notedValue, m_notices, m_bytes, m_length⟩ := id hm
  unfold s_ntV at hp
  refine xp_iload_n d_M_noted_0 rfl ?_
  refine xq_S1r d_M_noted_1 g_M_noted_111 rfl rfl ?_
  refine c_M_isNode ?_
  refine ⟨_, rfl, ?_⟩
  refine xp_if_eq (tgt := 30) d_M_noted_4 (by decide) (fun c4 => ?_) (fun c4 => ?_)
  · skip
    refine xp_iconst (v := -1) d_M_noted_30 (by decide) ?_
    refine xp_ireturn d_M_noted_31 rfl rfl ?_
    simp only [if_pos c4] at hp
    exact hp
  · skip
    obtain ⟨j, hj, rfl⟩ := s_isN_ix c4
    simp only [k_tn_nI (show j < 1000 by omega)] at hp
    refine xp_iload_n d_M_noted_7 rfl ?_
    refine xp_iconst (v := 0) d_M_noted_8 (by decide) ?_
    refine xp_iconst (v := 3) d_M_noted_9 (by decide) ?_
    refine xq_S3r d_M_noted_10 g_M_noted_121 rfl rfl ?_
    refine c_M_outside ?_
    refine ⟨_, rfl, ?_⟩
    refine xp_if_ne (tgt := 30) d_M_noted_13 (by decide) (fun c13 => ?_) (fun c13 => ?_)
    · skip
      refine xp_iconst (v := -1) d_M_noted_30 (by decide) ?_
      refine xp_ireturn d_M_noted_31 rfl rfl ?_
      simp only [if_neg c4, if_neg c13] at hp
      exact hp
    · skip
      refine xp_iload_n d_M_noted_16 rfl ?_
      refine xp_iconst (v := 3) d_M_noted_17 (by decide) ?_
      refine xp_icmp_ge (tgt := 32) d_M_noted_18 (by decide) (fun c18 => ?_) (fun c18 => ?_)
      · skip
        refine xp_iload_n d_M_noted_32 rfl ?_
        refine xp_if_ne (tgt := 45) d_M_noted_33 (by decide) (fun c33 => ?_) (fun c33 => ?_)
        · skip
          refine xp_iload_n d_M_noted_45 rfl ?_
          refine xp_iconst (v := 1) d_M_noted_46 (by decide) ?_
          refine xp_icmp_ne (tgt := 59) d_M_noted_47 (by decide) (fun c47 => ?_) (fun c47 => ?_)
          · skip
            refine xp_iload_n d_M_noted_59 rfl ?_
            refine xp_iconst (v := 2) d_M_noted_60 (by decide) ?_
            refine xp_icmp_ne (tgt := 73) d_M_noted_61 (by decide) (fun c61 => ?_) (fun c61 => ?_)
            · skip
              refine xp_aload_n d_M_noted_73 rfl ?_
              refine xm_getR d_M_noted_74 fg_M_98 hz (by assumption) ?_
              refine xp_iload_n d_M_noted_77 rfl ?_
              refine xm_iaload d_M_noted_78 rfl (by decide) hz rfl (by omega) (by decide) ?_
              refine xp_ireturn d_M_noted_79 rfl rfl ?_
              simp only [if_neg c4, if_pos c13, if_pos c18, if_neg c33, if_neg c47, if_neg c61] at hp
              exact hp
            · skip
              refine xp_aload_n d_M_noted_64 rfl ?_
              refine xm_getR d_M_noted_65 fg_M_95 hz (by assumption) ?_
              refine xp_iload_n d_M_noted_68 rfl ?_
              refine xm_iaload d_M_noted_69 rfl (by decide) hz rfl (by omega) (by decide) ?_
              refine xp_goto (tgt := 79) d_M_noted_70 (by decide) ?_
              refine xp_ireturn d_M_noted_79 rfl rfl ?_
              simp only [if_neg c4, if_pos c13, if_pos c18, if_neg c33, if_neg c47, if_pos c61] at hp
              exact hp
          · skip
            refine xp_aload_n d_M_noted_50 rfl ?_
            refine xm_getR d_M_noted_51 fg_M_92 hz (by assumption) ?_
            refine xp_iload_n d_M_noted_54 rfl ?_
            refine xm_iaload d_M_noted_55 rfl (by decide) hz rfl (by omega) (by decide) ?_
            refine xp_goto (tgt := 79) d_M_noted_56 (by decide) ?_
            refine xp_ireturn d_M_noted_79 rfl rfl ?_
            simp only [if_neg c4, if_pos c13, if_pos c18, if_neg c33, if_pos c47] at hp
            exact hp
        · skip
          refine xp_aload_n d_M_noted_36 rfl ?_
          refine xm_getR d_M_noted_37 fg_M_89 hz (by assumption) ?_
          refine xp_iload_n d_M_noted_40 rfl ?_
          refine xm_iaload d_M_noted_41 rfl (by decide) hz rfl (by omega) (by decide) ?_
          refine xp_goto (tgt := 79) d_M_noted_42 (by decide) ?_
          refine xp_ireturn d_M_noted_79 rfl rfl ?_
          simp only [if_neg c4, if_pos c13, if_pos c18, if_pos c33] at hp
          exact hp
      · skip
        refine xp_aload_n d_M_noted_21 rfl ?_
        refine xm_getR d_M_noted_22 fg_M_98 hz (by assumption) ?_
        refine xp_iload_n d_M_noted_25 rfl ?_
        refine xm_iaload d_M_noted_26 rfl (by decide) hz rfl (by omega) (by decide) ?_
        refine xp_if_ne (tgt := 32) d_M_noted_27 (by decide) (fun c27 => ?_) (fun c27 => ?_)
        · skip
          refine xp_iload_n d_M_noted_32 rfl ?_
          refine xp_if_ne (tgt := 45) d_M_noted_33 (by decide) (fun c33 => ?_) (fun c33 => ?_)
          · skip
            refine xp_iload_n d_M_noted_45 rfl ?_
            refine xp_iconst (v := 1) d_M_noted_46 (by decide) ?_
            refine xp_icmp_ne (tgt := 59) d_M_noted_47 (by decide) (fun c47 => ?_) (fun c47 => ?_)
            · skip
              refine xp_iload_n d_M_noted_59 rfl ?_
              refine xp_iconst (v := 2) d_M_noted_60 (by decide) ?_
              refine xp_icmp_ne (tgt := 73) d_M_noted_61 (by decide) (fun c61 => ?_) (fun c61 => ?_)
              · skip
                refine xp_aload_n d_M_noted_73 rfl ?_
                refine xm_getR d_M_noted_74 fg_M_98 hz (by assumption) ?_
                refine xp_iload_n d_M_noted_77 rfl ?_
                refine xm_iaload d_M_noted_78 rfl (by decide) hz rfl (by omega) (by decide) ?_
                refine xp_ireturn d_M_noted_79 rfl rfl ?_
                simp only [if_neg c4, if_pos c13, if_neg c18, if_neg c27, if_neg c33, if_neg c47, if_neg c61] at hp
                exact hp
              · skip
                refine xp_aload_n d_M_noted_64 rfl ?_
                refine xm_getR d_M_noted_65 fg_M_95 hz (by assumption) ?_
                refine xp_iload_n d_M_noted_68 rfl ?_
                refine xm_iaload d_M_noted_69 rfl (by decide) hz rfl (by omega) (by decide) ?_
                refine xp_goto (tgt := 79) d_M_noted_70 (by decide) ?_
                refine xp_ireturn d_M_noted_79 rfl rfl ?_
                simp only [if_neg c4, if_pos c13, if_neg c18, if_neg c27, if_neg c33, if_neg c47, if_pos c61] at hp
                exact hp
            · skip
              refine xp_aload_n d_M_noted_50 rfl ?_
              refine xm_getR d_M_noted_51 fg_M_92 hz (by assumption) ?_
              refine xp_iload_n d_M_noted_54 rfl ?_
              refine xm_iaload d_M_noted_55 rfl (by decide) hz rfl (by omega) (by decide) ?_
              refine xp_goto (tgt := 79) d_M_noted_56 (by decide) ?_
              refine xp_ireturn d_M_noted_79 rfl rfl ?_
              simp only [if_neg c4, if_pos c13, if_neg c18, if_neg c27, if_neg c33, if_pos c47] at hp
              exact hp
          · skip
            refine xp_aload_n d_M_noted_36 rfl ?_
            refine xm_getR d_M_noted_37 fg_M_89 hz (by assumption) ?_
            refine xp_iload_n d_M_noted_40 rfl ?_
            refine xm_iaload d_M_noted_41 rfl (by decide) hz rfl (by omega) (by decide) ?_
            refine xp_goto (tgt := 79) d_M_noted_42 (by decide) ?_
            refine xp_ireturn d_M_noted_79 rfl rfl ?_
            simp only [if_neg c4, if_pos c13, if_neg c18, if_neg c27, if_pos c33] at hp
            exact hp
        · skip
          refine xp_iconst (v := -1) d_M_noted_30 (by decide) ?_
          refine xp_ireturn d_M_noted_31 rfl rfl ?_
          simp only [if_neg c4, if_pos c13, if_neg c18, if_pos c27] at hp
          exact hp
set_option maxRecDepth 100000 in
set_option maxHeartbeats 1000000 in
theorem c_M_frame (hm : x_mdl z P) {w i : Int32} (hlen : ∀ f, f ≤ 1 → ∃ s, s ≤ 18 ∧ J 100 f = nI s) (hp : post (some (.int (s_frV J w i))) (z, x_mg I J, P)) : xp G M_M_frame 0 [(0, .ref 68), (1, .int w), (2, .int i)] [] (z, x_mg I J, P) 0 0 post := by
  obtain ⟨hz, m_powered, m_next, m_polled, m_count, m_tokens, m_input, m_setpoint, m_gainP, m_gainI, m_sum, m_level, m_taken, m_from, m_target, m_what, m_given, m_state, m_tries, m_got, m_error, m_reply, m_kept, m_whose, m_object, m_seen, m_due, m_notedNode, m_notedObject, m_notedValue, m_notices, m_bytes, m_length⟩ := id hm
  unfold s_frV at hp
  refine xp_iload_n d_M_frame_0 rfl ?_
  refine xp_iconst (v := 0) d_M_frame_1 (by decide) ?_
  refine xp_iconst (v := 1) d_M_frame_2 (by decide) ?_
  refine xq_S3r d_M_frame_3 g_M_frame_121 rfl rfl ?_
  refine c_M_outside ?_
  refine ⟨_, rfl, ?_⟩
  refine xp_if_eq (tgt := 11) d_M_frame_6 (by decide) (fun c6 => ?_) (fun c6 => ?_)
  · skip
    obtain ⟨f, -, hf, rfl⟩ := s_out_ix (A := 0) (B := 1) (by decide) (by decide) c6
    simp only [k_tn_nI (show f < 1000 by omega)] at hp
    refine xp_iload_n d_M_frame_11 rfl ?_
    refine xp_iconst (v := -1) d_M_frame_12 (by decide) ?_
    refine xp_icmp_ne (tgt := 25) d_M_frame_13 (by decide) (fun c13 => ?_) (fun c13 => ?_)
    · skip
      refine xp_iload_n d_M_frame_25 rfl ?_
      refine xp_if_lt (tgt := 39) d_M_frame_26 (by decide) (fun c26 => ?_) (fun c26 => ?_)
      · skip
        refine xp_iconst (v := -1) d_M_frame_39 (by decide) ?_
        refine xp_goto (tgt := 54) d_M_frame_40 (by decide) ?_
        refine xp_ireturn d_M_frame_54 rfl rfl ?_
        simp only [if_pos c6, if_neg c13, if_pos c26] at hp
        exact hp
      · skip
        refine xp_iload_n d_M_frame_29 rfl ?_
        refine xp_aload_n d_M_frame_30 rfl ?_
        refine xm_getR d_M_frame_31 fg_M_104 hz (by assumption) ?_
        refine xp_iload_n d_M_frame_34 rfl ?_
        refine xm_iaload d_M_frame_35 rfl (by decide) hz rfl (by omega) (by decide) ?_
        refine xp_icmp_lt (tgt := 43) d_M_frame_36 (by decide) (fun c36 => ?_) (fun c36 => ?_)
        · skip
          obtain ⟨s, hs, es⟩ := hlen f hf
          obtain ⟨j, hj, rfl⟩ := nI_of c26
          have hj2 : j < s := by have q := c36; rw [es] at q; exact (nI_ltI hj (by omega)).mp q
          simp only [k_tn_nI (show j < 1000 by omega)] at hp
          refine xp_aload_n d_M_frame_43 rfl ?_
          refine xm_getR d_M_frame_44 fg_M_101 hz (by assumption) ?_
          refine xp_bipush (v := 18) d_M_frame_47 (by decide) ?_
          refine xp_iload_n d_M_frame_49 rfl ?_
          refine xp_imul d_M_frame_50 ?_
          refine xp_iload_n d_M_frame_51 rfl ?_
          refine xp_iadd d_M_frame_52 ?_
          refine xm_iaload d_M_frame_53 rfl (by decide) hz (x_mulA 18 f j) (by omega) (by decide) ?_
          refine xp_ireturn d_M_frame_54 rfl rfl ?_
          simp only [if_pos c6, if_neg c13, if_neg c26, if_pos c36] at hp
          exact hp
        · skip
          refine xp_iconst (v := -1) d_M_frame_39 (by decide) ?_
          refine xp_goto (tgt := 54) d_M_frame_40 (by decide) ?_
          refine xp_ireturn d_M_frame_54 rfl rfl ?_
          simp only [if_pos c6, if_neg c13, if_neg c26, if_neg c36] at hp
          exact hp
    · skip
      refine xp_aload_n d_M_frame_16 rfl ?_
      refine xm_getR d_M_frame_17 fg_M_104 hz (by assumption) ?_
      refine xp_iload_n d_M_frame_20 rfl ?_
      refine xm_iaload d_M_frame_21 rfl (by decide) hz rfl (by omega) (by decide) ?_
      refine xp_goto (tgt := 54) d_M_frame_22 (by decide) ?_
      refine xp_ireturn d_M_frame_54 rfl rfl ?_
      simp only [if_pos c6, if_pos c13] at hp
      exact hp
  · skip
    refine xp_iconst (v := -1) d_M_frame_9 (by decide) ?_
    refine xp_ireturn d_M_frame_10 rfl rfl ?_
    simp only [if_neg c6] at hp
    exact hp
set_option maxRecDepth 100000 in
set_option maxHeartbeats 1000000 in
theorem c_M_request (hm : x_mdl z P) {n t w v : Int32} {made : Nat} (em : J 68 12 = nI made) (hm6 : made ≤ 60) (hp : post (some (.int (s_rqV J n t w made))) (z, x_mg I (s_rqJ J n t w v made), P)) : xp G M_M_request 0 [(0, .ref 68), (1, .int n), (2, .int t), (3, .int w), (4, .int v)] [] (z, x_mg I J, P) 0 0 post := by
  obtain ⟨hz, m_powered, m_next, m_polled, m_count, m_tokens, m_input, m_setpoint, m_gainP, m_gainI, m_sum, m_level, m_taken, m_from, m_target, m_what, m_given, m_state, m_tries, m_got, m_error, m_reply, m_kept, m_whose, m_object, m_seen, m_due, m_notedNode, m_notedObject, m_notedValue, m_notices, m_bytes, m_length⟩ := id hm
  unfold s_rqV s_rqJ at hp
  refine xp_iload_n d_M_request_0 rfl ?_
  refine xq_S1r d_M_request_1 g_M_request_111 rfl rfl ?_
  refine c_M_isNode ?_
  refine ⟨_, rfl, ?_⟩
  refine xp_if_eq (tgt := 30) d_M_request_4 (by decide) (fun c4 => ?_) (fun c4 => ?_)
  · skip
    refine xp_iconst (v := -1) d_M_request_30 (by decide) ?_
    refine xp_ireturn d_M_request_31 rfl rfl ?_
    simp only [if_pos c4] at hp
    exact hp
  · skip
    refine xp_iload_n d_M_request_7 rfl ?_
    refine xq_S1r d_M_request_8 g_M_request_111 rfl rfl ?_
    refine c_M_isNode ?_
    refine ⟨_, rfl, ?_⟩
    refine xp_if_eq (tgt := 30) d_M_request_11 (by decide) (fun c11 => ?_) (fun c11 => ?_)
    · skip
      refine xp_iconst (v := -1) d_M_request_30 (by decide) ?_
      refine xp_ireturn d_M_request_31 rfl rfl ?_
      simp only [if_neg c4, if_pos c11] at hp
      exact hp
    · skip
      refine xp_iload_n d_M_request_14 rfl ?_
      refine xp_iload_n d_M_request_15 rfl ?_
      refine xp_icmp_eq (tgt := 30) d_M_request_16 (by decide) (fun c16 => ?_) (fun c16 => ?_)
      · skip
        refine xp_iconst (v := -1) d_M_request_30 (by decide) ?_
        refine xp_ireturn d_M_request_31 rfl rfl ?_
        simp only [if_neg c4, if_neg c11, if_pos c16] at hp
        exact hp
      · skip
        refine xp_iload_n d_M_request_19 rfl ?_
        refine xp_iconst (v := 0) d_M_request_20 (by decide) ?_
        refine xp_sipush (v := 2047) d_M_request_21 (by decide) ?_
        refine xq_S3r d_M_request_24 g_M_request_121 rfl rfl ?_
        refine c_M_outside ?_
        refine ⟨_, rfl, ?_⟩
        refine xp_if_eq (tgt := 32) d_M_request_27 (by decide) (fun c27 => ?_) (fun c27 => ?_)
        · skip
          refine xp_aload_n d_M_request_32 rfl ?_
          refine xm_getI d_M_request_33 fg_M_125 hz ?_
          refine xp_bipush (v := 60) d_M_request_36 (by decide) ?_
          refine xp_icmp_eq (tgt := 50) d_M_request_38 (by decide) (fun c38 => ?_) (fun c38 => ?_)
          · skip
            refine xp_bipush (v := -2) d_M_request_50 (by decide) ?_
            refine xp_ireturn d_M_request_52 rfl rfl ?_
            simp only [if_neg c4, if_neg c11, if_neg c16, if_pos c27, if_pos c38] at hp
            exact hp
          · skip
            refine xp_aload_n d_M_request_41 rfl ?_
            refine xp_iload_n d_M_request_42 rfl ?_
            refine xq_V1r d_M_request_43 g_M_request_128 (x_mA hz) rfl rfl ?_
            refine c_M_waiting hm em hm6 ?_
            refine ⟨_, rfl, ?_⟩
            refine xp_iconst (v := 4) d_M_request_46 (by decide) ?_
            refine xp_icmp_ne (tgt := 53) d_M_request_47 (by decide) (fun c47 => ?_) (fun c47 => ?_)
            · skip
              have hm5 : made < 60 := by have q : ¬ made = 60 := fun e => c38 (by rw [em, e]; decide); omega
              refine xp_aload_n d_M_request_53 rfl ?_
              refine xm_getR d_M_request_54 fg_M_47 hz (by assumption) ?_
              refine xp_aload_n d_M_request_57 rfl ?_
              refine xm_getI d_M_request_58 fg_M_125 hz ?_
              refine xp_iload_n d_M_request_61 rfl ?_
              refine xm_iastore d_M_request_62 rfl (by decide) hz em hm5 (by decide) ?_
              refine xp_aload_n d_M_request_63 rfl ?_
              refine xm_getR d_M_request_64 fg_M_50 hz (by assumption) ?_
              refine xp_aload_n d_M_request_67 rfl ?_
              refine xm_getI d_M_request_68 fg_M_125 hz ?_
              refine xp_iload_n d_M_request_71 rfl ?_
              refine xm_iastore d_M_request_72 rfl (by decide) hz em hm5 (by decide) ?_
              refine xp_aload_n d_M_request_73 rfl ?_
              refine xm_getR d_M_request_74 fg_M_53 hz (by assumption) ?_
              refine xp_aload_n d_M_request_77 rfl ?_
              refine xm_getI d_M_request_78 fg_M_125 hz ?_
              refine xp_iload_n d_M_request_81 rfl ?_
              refine xm_iastore d_M_request_82 rfl (by decide) hz em hm5 (by decide) ?_
              refine xp_aload_n d_M_request_83 rfl ?_
              refine xm_getR d_M_request_84 fg_M_56 hz (by assumption) ?_
              refine xp_aload_n d_M_request_87 rfl ?_
              refine xm_getI d_M_request_88 fg_M_125 hz ?_
              refine xp_iload d_M_request_91 rfl ?_
              refine xm_iastore d_M_request_93 rfl (by decide) hz em hm5 (by decide) ?_
              refine xp_aload_n d_M_request_94 rfl ?_
              refine xp_dup d_M_request_95 rfl ?_
              refine xm_getI d_M_request_96 fg_M_125 hz ?_
              refine xp_iconst (v := 1) d_M_request_99 (by decide) ?_
              refine xp_iadd d_M_request_100 ?_
              refine xm_putI d_M_request_101 f_M_125 hz ?_
              refine xp_aload_n d_M_request_104 rfl ?_
              refine xm_getI d_M_request_105 fg_M_125 hz ?_
              refine xp_iconst (v := 1) d_M_request_108 (by decide) ?_
              refine xp_isub d_M_request_109 ?_
              refine xp_ireturn d_M_request_110 rfl rfl ?_
              simp only [if_neg c4, if_neg c11, if_neg c16, if_pos c27, if_neg c38, if_neg c47] at hp
              rw [x_up_eq ⟨rfl, rfl⟩]
              exact hp
            · skip
              refine xp_bipush (v := -2) d_M_request_50 (by decide) ?_
              refine xp_ireturn d_M_request_52 rfl rfl ?_
              simp only [if_neg c4, if_neg c11, if_neg c16, if_pos c27, if_neg c38, if_pos c47] at hp
              exact hp
        · skip
          refine xp_iconst (v := -1) d_M_request_30 (by decide) ?_
          refine xp_ireturn d_M_request_31 rfl rfl ?_
          simp only [if_neg c4, if_neg c11, if_neg c16, if_neg c27] at hp
          exact hp
set_option maxRecDepth 100000 in
set_option maxHeartbeats 1000000 in
theorem l_M_power_63 (hm : x_mdl z P) {n subs : Nat} (es : J 68 22 = nI subs) (hs : subs ≤ 18) (hd : ∀ j, J 94 j = 0 ∨ J 94 j = 1) (hp : xp G M_M_power 157 [(0, .ref 68), (1, .int (nI n)), (3, .int (nI (s_pk J (nI n) subs).2))] [] (z, x_mg I (s_pk J (nI n) subs).1, P) 0 0 post) : ∀ q k : Nat, q + k = subs → xp G M_M_power 63 [(0, .ref 68), (1, .int (nI n)), (3, .int (nI (s_pk J (nI n) k).2)), (4, .int (nI k))] [] (z, x_mg I (s_pk J (nI n) k).1, P) 0 0 post := by
  obtain ⟨hz, m_powered, m_next, m_polled, m_count, m_tokens, m_input, m_setpoint, m_gainP, m_gainI, m_sum, m_level, m_taken, m_from, m_target, m_what, m_given, m_state, m_tries, m_got, m_error, m_reply, m_kept, m_whose, m_object, m_seen, m_due, m_notedNode, m_notedObject, m_notedValue, m_notices, m_bytes, m_length⟩ := id hm
  intro q
  induction q with
  | zero =>
    intro k hk
    have hk : k = subs := by omega
    subst hk
    refine xp_iload d_M_power_63 rfl ?_
    refine xp_aload_n d_M_power_65 rfl ?_
    refine xm_getI d_M_power_66 fg_M_115 hz ?_
    refine xp_icmp_ge (tgt := 157) d_M_power_69 (by decide) (fun c69 => ?_) (fun c69 => absurd (show (s_pk J (nI n) k).1 68 22 ≤ nI k by rw [s_pk_68 (by omega), es]; exact nI_le (Nat.le_refl _) (by omega)) c69)
    refine xp_loc (lv' := [(0, .ref 68), (1, .int (nI n)), (3, .int (nI (s_pk J (nI n) k).2))]) ⟨rfl, rfl, rfl, trivial⟩ ?_
    exact hp
  | succ q ih =>
    intro k hk
    have hle := s_pk_le J (nI n) k
    have hdk := s_pk_94 (n := nI n) hd k k
    have hh := ih (k + 1) (by omega)
    unfold s_pk at hh
    refine xp_iload d_M_power_63 rfl ?_
    refine xp_aload_n d_M_power_65 rfl ?_
    refine xm_getI d_M_power_66 fg_M_115 hz ?_
    refine xp_icmp_ge (tgt := 157) d_M_power_69 (by decide) (fun c69 => absurd c69 (fun e => by rw [s_pk_68 (by omega), es] at e; have := (nI_leI (a := subs) (b := k) (by omega) (by omega)).mp e; omega)) (fun c69 => ?_)
    refine xp_aload_n d_M_power_72 rfl ?_
    refine xm_getR d_M_power_73 fg_M_74 hz (by assumption) ?_
    refine xp_iload d_M_power_76 rfl ?_
    refine xm_iaload d_M_power_78 rfl (by decide) hz rfl (by omega) (by decide) ?_
    refine xp_iload_n d_M_power_79 rfl ?_
    refine xp_icmp_eq (tgt := 151) d_M_power_80 (by decide) (fun c80 => ?_) (fun c80 => ?_)
    · skip
      refine xp_inc1 d_M_power_151 rfl (by decide) ?_
      refine xp_goto (tgt := 63) d_M_power_154 (by decide) ?_
      refine xp_loc (lv' := [(0, .ref 68), (1, .int (nI n)), (3, .int (nI (s_pk J (nI n) k).2)), (4, .int (nI (k + 1)))]) ⟨rfl, rfl, rfl, rfl, trivial⟩ ?_
      simp only [if_pos c80] at hh
      exact hh
    · skip
      refine xp_aload_n d_M_power_83 rfl ?_
      refine xm_getR d_M_power_84 fg_M_74 hz (by assumption) ?_
      refine xp_iload_n d_M_power_87 rfl ?_
      refine xp_aload_n d_M_power_88 rfl ?_
      refine xm_getR d_M_power_89 fg_M_74 hz (by assumption) ?_
      refine xp_iload d_M_power_92 rfl ?_
      refine xm_iaload d_M_power_94 rfl (by decide) hz rfl (by omega) (by decide) ?_
      refine xm_iastore d_M_power_95 rfl (by decide) hz rfl (by omega) (by decide) ?_
      refine xp_aload_n d_M_power_96 rfl ?_
      refine xm_getR d_M_power_97 fg_M_77 hz (by assumption) ?_
      refine xp_iload_n d_M_power_100 rfl ?_
      refine xp_aload_n d_M_power_101 rfl ?_
      refine xm_getR d_M_power_102 fg_M_77 hz (by assumption) ?_
      refine xp_iload d_M_power_105 rfl ?_
      refine xm_iaload d_M_power_107 rfl (by decide) hz rfl (by omega) (by decide) ?_
      refine xm_iastore d_M_power_108 rfl (by decide) hz rfl (by omega) (by decide) ?_
      refine xp_aload_n d_M_power_109 rfl ?_
      refine xm_getR d_M_power_110 fg_M_80 hz (by assumption) ?_
      refine xp_iload_n d_M_power_113 rfl ?_
      refine xp_aload_n d_M_power_114 rfl ?_
      refine xm_getR d_M_power_115 fg_M_80 hz (by assumption) ?_
      refine xp_iload d_M_power_118 rfl ?_
      refine xm_iaload d_M_power_120 rfl (by decide) hz rfl (by omega) (by decide) ?_
      refine xm_iastore d_M_power_121 rfl (by decide) hz rfl (by omega) (by decide) ?_
      refine xp_aload_n d_M_power_122 rfl ?_
      refine xm_getR d_M_power_123 fg_M_83 hz (by assumption) ?_
      refine xp_iload_n d_M_power_126 rfl ?_
      refine xp_aload_n d_M_power_127 rfl ?_
      refine xm_getR d_M_power_128 fg_M_83 hz (by assumption) ?_
      refine xp_iload d_M_power_131 rfl ?_
      refine xm_iaload d_M_power_133 rfl (by decide) hz rfl (by omega) (by decide) ?_
      refine xm_iastore d_M_power_134 rfl (by decide) hz rfl (by omega) (by decide) ?_
      refine xp_aload_n d_M_power_135 rfl ?_
      refine xm_getR d_M_power_136 fg_M_86 hz (by assumption) ?_
      refine xp_iload_n d_M_power_139 rfl ?_
      refine xp_aload_n d_M_power_140 rfl ?_
      refine xm_getR d_M_power_141 fg_M_86 hz (by assumption) ?_
      refine xp_iload d_M_power_144 rfl ?_
      refine xm_baload d_M_power_146 rfl (by decide) hz rfl (by omega) (by decide) ?_
      refine xm_bastore d_M_power_147 rfl (by decide) hz rfl (by omega) (by decide) (by first | exact hdk | (rw [show _ = _ from s_c4_94]; exact hdk)) ?_
      refine xp_inc1 d_M_power_148 rfl (by decide) ?_
      refine xp_inc1 d_M_power_151 rfl (by decide) ?_
      refine xp_goto (tgt := 63) d_M_power_154 (by decide) ?_
      refine xp_loc (lv' := [(0, .ref 68), (1, .int (nI n)), (3, .int (nI ((s_pk J (nI n) k).2 + 1))), (4, .int (nI (k + 1)))]) ⟨rfl, rfl, rfl, rfl, trivial⟩ ?_
      simp only [if_neg c80] at hh
      exact hh
set_option maxRecDepth 100000 in
set_option maxHeartbeats 1000000 in
theorem c_M_power (hm : x_mdl z P) {n on : Int32} (hon : on = 0 ∨ on = 1) {subs : Nat} (es : J 68 22 = nI subs) (hs : subs ≤ 18) (hd : ∀ j, J 94 j = 0 ∨ J 94 j = 1) (hp : post (some (.int (s_pwV J n on))) (z, x_mg I (s_pwJ J n on subs), P)) : xp G M_M_power 0 [(0, .ref 68), (1, .int n), (2, .int on)] [] (z, x_mg I J, P) 0 0 post := by
  obtain ⟨hz, m_powered, m_next, m_polled, m_count, m_tokens, m_input, m_setpoint, m_gainP, m_gainI, m_sum, m_level, m_taken, m_from, m_target, m_what, m_given, m_state, m_tries, m_got, m_error, m_reply, m_kept, m_whose, m_object, m_seen, m_due, m_notedNode, m_notedObject, m_notedValue, m_notices, m_bytes, m_length⟩ := id hm
  unfold s_pwV s_pwJ at hp
  refine xp_iload_n d_M_power_0 rfl ?_
  refine xq_S1r d_M_power_1 g_M_power_111 rfl rfl ?_
  refine c_M_isNode ?_
  refine ⟨_, rfl, ?_⟩
  refine xp_if_eq (tgt := 17) d_M_power_4 (by decide) (fun c4 => ?_) (fun c4 => ?_)
  · skip
    refine xp_iconst (v := 0) d_M_power_17 (by decide) ?_
    refine xp_ireturn d_M_power_18 rfl (x_bit (by first | exact Or.inl rfl | exact Or.inr rfl | assumption)).1 ?_
    simp only [if_pos c4] at hp
    exact hp
  · skip
    obtain ⟨j, hj, rfl⟩ := s_isN_ix c4
    simp only [k_tn_nI (show j < 1000 by omega)] at hp
    refine xp_aload_n d_M_power_7 rfl ?_
    refine xm_getR d_M_power_8 fg_M_7 hz (by assumption) ?_
    refine xp_iload_n d_M_power_11 rfl ?_
    refine xm_baload d_M_power_12 rfl (by decide) hz rfl (by omega) (by decide) ?_
    refine xp_iload_n d_M_power_13 rfl ?_
    refine xp_icmp_ne (tgt := 19) d_M_power_14 (by decide) (fun c14 => ?_) (fun c14 => ?_)
    · skip
      refine xp_aload_n d_M_power_19 rfl ?_
      refine xm_getR d_M_power_20 fg_M_7 hz (by assumption) ?_
      refine xp_iload_n d_M_power_23 rfl ?_
      refine xp_iload_n d_M_power_24 rfl ?_
      refine xm_bastore d_M_power_25 rfl (by decide) hz rfl (by omega) (by decide) (by first | exact Or.inl rfl | exact Or.inr rfl | assumption) ?_
      refine xp_iload_n d_M_power_26 rfl ?_
      refine xp_if_eq (tgt := 165) d_M_power_27 (by decide) (fun c27 => ?_) (fun c27 => ?_)
      · skip
        have e1 := c27
        subst e1
        refine xp_aload_n d_M_power_165 rfl ?_
        refine xm_getI d_M_power_166 fg_M_107 hz ?_
        refine xp_iload_n d_M_power_169 rfl ?_
        refine xp_icmp_ne (tgt := 183) d_M_power_170 (by decide) (fun c170 => ?_) (fun c170 => ?_)
        · skip
          refine xp_iconst (v := 1) d_M_power_183 (by decide) ?_
          refine xp_ireturn d_M_power_184 rfl (x_bit (by first | exact Or.inl rfl | exact Or.inr rfl | assumption)).1 ?_
          simp only [if_neg c4, if_neg c14, if_pos c27, if_neg c170] at hp
          exact hp
        · skip
          refine xp_aload_n d_M_power_173 rfl ?_
          refine xp_iconst (v := -1) d_M_power_174 (by decide) ?_
          refine xm_putI d_M_power_175 f_M_107 hz ?_
          refine xp_aload_n d_M_power_178 rfl ?_
          refine xp_iconst (v := 0) d_M_power_179 (by decide) ?_
          refine xm_putI d_M_power_180 f_M_118 hz ?_
          refine xp_iconst (v := 1) d_M_power_183 (by decide) ?_
          refine xp_ireturn d_M_power_184 rfl (x_bit (by first | exact Or.inl rfl | exact Or.inr rfl | assumption)).1 ?_
          simp only [if_neg c4, if_neg c14, if_pos c27, if_pos c170] at hp
          exact hp
      · skip
        have e1 : on = 1 := hon.resolve_left c27
        subst e1
        refine xp_aload_n d_M_power_30 rfl ?_
        refine xm_getR d_M_power_31 fg_M_13 hz (by assumption) ?_
        refine xp_iload_n d_M_power_34 rfl ?_
        refine xp_iload_n d_M_power_35 rfl ?_
        refine xm_iastore d_M_power_36 rfl (by decide) hz rfl (by omega) (by decide) ?_
        refine xp_aload_n d_M_power_37 rfl ?_
        refine xm_getR d_M_power_38 fg_M_17 hz (by assumption) ?_
        refine xp_iload_n d_M_power_41 rfl ?_
        refine xp_iload_n d_M_power_42 rfl ?_
        refine xm_iastore d_M_power_43 rfl (by decide) hz rfl (by omega) (by decide) ?_
        refine xp_aload_n d_M_power_44 rfl ?_
        refine xm_getR d_M_power_45 fg_M_20 hz (by assumption) ?_
        refine xp_iload_n d_M_power_48 rfl ?_
        refine xp_iconst (v := 0) d_M_power_49 (by decide) ?_
        refine xm_iastore d_M_power_50 rfl (by decide) hz rfl (by omega) (by decide) ?_
        refine xp_aload_n d_M_power_51 rfl ?_
        refine xm_getR d_M_power_52 fg_M_38 hz (by assumption) ?_
        refine xp_iload_n d_M_power_55 rfl ?_
        refine xp_iconst (v := 0) d_M_power_56 (by decide) ?_
        refine xm_iastore d_M_power_57 rfl (by decide) hz rfl (by omega) (by decide) ?_
        refine xp_iconst (v := 0) d_M_power_58 (by decide) ?_
        refine xp_istore_n d_M_power_59 (by decide) ?_
        refine xp_iconst (v := 0) d_M_power_60 (by decide) ?_
        refine xp_istore d_M_power_61 (by decide) ?_
        refine xp_loc (lv' := [(0, .ref 68), (1, .int (nI j)), (3, .int (nI (s_pk (s_on J j) (nI j) 0).2)), (4, .int (nI 0))]) ⟨rfl, rfl, rfl, rfl, trivial⟩ ?_
        refine l_M_power_63 (J := s_on J j) hm (by rw [show s_on J j 68 22 = J 68 22 from (x_up_ne (by omega)).trans ((x_up_ne (by omega)).trans ((x_up_ne (by omega)).trans ((x_up_ne (by omega)).trans (x_up_ne (by omega)))))]; exact es) hs (fun i => by rw [show s_on J j 94 i = J 94 i from (x_up_ne (by omega)).trans ((x_up_ne (by omega)).trans ((x_up_ne (by omega)).trans ((x_up_ne (by omega)).trans (x_up_ne (by omega)))))]; exact hd i) ?_ subs 0 rfl
        simp only [if_neg c4, if_neg c14, if_neg c27] at hp
        refine xp_aload_n d_M_power_157 rfl ?_
        refine xp_iload_n d_M_power_158 rfl ?_
        refine xm_putI d_M_power_159 f_M_115 hz ?_
        refine xp_goto (tgt := 183) d_M_power_162 (by decide) ?_
        refine xp_iconst (v := 1) d_M_power_183 (by decide) ?_
        refine xp_ireturn d_M_power_184 rfl (x_bit (by first | exact Or.inl rfl | exact Or.inr rfl | assumption)).1 ?_
        exact hp
    · skip
      refine xp_iconst (v := 0) d_M_power_17 (by decide) ?_
      refine xp_ireturn d_M_power_18 rfl (x_bit (by first | exact Or.inl rfl | exact Or.inr rfl | assumption)).1 ?_
      simp only [if_neg c4, if_pos c14] at hp
      exact hp
end partA2
