/-! the model's settle and step -/
def s_b (J : xI) : xI := x_up (x_up (x_up (x_up J 68 39 0) 100 0 0) 100 1 0) 68 37 (x_up (x_up (x_up J 68 39 0) 100 0 0) 100 1 0 68 37 + 1)
def s_ma (J : xI) (s h m made : Nat) : xI := if 0 ≤ J 68 32 then (if J 68 33 = 0 then s_use J s h m made else if J 68 33 = 1 then s_poll J s h else if J 68 33 = 2 then s_pass J s h else s_sear J s h) else s_lis J
def s_e (J : xI) : xI := x_up (x_up J 68 38 (J 68 38 + J 68 39)) 68 44 0
theorem s_b_ne {J : xI} {a j : Nat} (h : a ≠ 100) (h2 : a ≠ 68 ∨ (j ≠ 39 ∧ j ≠ 37)) : s_b J a j = J a j := by
  unfold s_b
  rw [x_up_ne (by omega), x_up_ne (by omega), x_up_ne (by omega), x_up_ne (by omega)]
section partAC
variable {G : xG} {z : Nat} {I J : xI} {P : xP} {post : Option Value → xH → Prop} {h0 : xH}
set_option maxRecDepth 100000 in
set_option maxHeartbeats 1000000 in
theorem l_M_settle_2 (hm : x_mdl z P) (hp : xp G M_M_settle 135 [(0, .ref 68)] [] (z, x_mg I (s_seA J 6), P) 0 0 post) : ∀ q n : Nat, q + n = 6 → xp G M_M_settle 2 [(0, .ref 68), (1, .int (nI n))] [] (z, x_mg I (s_seA J n), P) 0 0 post := by
  obtain ⟨hz, m_powered, m_next, m_polled, m_count, m_tokens, m_input, m_setpoint, m_gainP, m_gainI, m_sum, m_level, m_taken, m_from, m_target, m_what, m_given, m_state, m_tries, m_got, m_error, m_reply, m_kept, m_whose, m_object, m_seen, m_due, m_notedNode, m_notedObject, m_notedValue, m_notices, m_bytes, m_length⟩ := id hm
  intro q
  induction q with
  | zero =>
    intro n hk
    have hk : n = 6 := by omega
    subst hk
    refine xp_iload_n d_M_settle_2 rfl ?_
    refine xp_bipush (v := 6) d_M_settle_3 (by decide) ?_
    refine xp_icmp_ge (tgt := 135) d_M_settle_5 (by decide) (fun c5 => ?_) (fun c5 => absurd (show (6 : Int32) ≤ nI 6 by decide) c5)
    refine xp_loc (lv' := [(0, .ref 68)]) ⟨rfl, trivial⟩ ?_
    exact hp
  | succ q ih =>
    intro n hk
    have hh := ih (n + 1) (by omega)
    unfold s_seA s_ctl at hh
    refine xp_iload_n d_M_settle_2 rfl ?_
    refine xp_bipush (v := 6) d_M_settle_3 (by decide) ?_
    refine xp_icmp_ge (tgt := 135) d_M_settle_5 (by decide) (fun c5 => absurd c5 (fun e => by have := (nI_leI (a := 6) (b := n) (by decide) (by omega)).mp e; omega)) (fun c5 => ?_)
    refine xp_aload_n d_M_settle_8 rfl ?_
    refine xm_getR d_M_settle_9 fg_M_7 hz (by assumption) ?_
    refine xp_iload_n d_M_settle_12 rfl ?_
    refine xm_baload d_M_settle_13 rfl (by decide) hz rfl (by omega) (by decide) ?_
    refine xp_if_eq (tgt := 129) d_M_settle_14 (by decide) (fun c14 => ?_) (fun c14 => ?_)
    · skip
      refine xp_inc1 d_M_settle_129 rfl (by decide) ?_
      refine xp_goto (tgt := 2) d_M_settle_132 (by decide) ?_
      refine xp_loc (lv' := [(0, .ref 68), (1, .int (nI (n + 1)))]) ⟨rfl, rfl, trivial⟩ ?_
      simp only [if_pos c14] at hh
      exact hh
    · skip
      refine xp_aload_n d_M_settle_17 rfl ?_
      refine xm_getR d_M_settle_18 fg_M_32 hz (by assumption) ?_
      refine xp_iload_n d_M_settle_21 rfl ?_
      refine xm_iaload d_M_settle_22 rfl (by decide) hz rfl (by omega) (by decide) ?_
      refine xp_if_ne (tgt := 35) d_M_settle_23 (by decide) (fun c23 => ?_) (fun c23 => ?_)
      · skip
        refine xp_aload_n d_M_settle_35 rfl ?_
        refine xm_getR d_M_settle_36 fg_M_29 hz (by assumption) ?_
        refine xp_iload_n d_M_settle_39 rfl ?_
        refine xm_iaload d_M_settle_40 rfl (by decide) hz rfl (by omega) (by decide) ?_
        refine xp_aload_n d_M_settle_41 rfl ?_
        refine xm_getR d_M_settle_42 fg_M_26 hz (by assumption) ?_
        refine xp_iload_n d_M_settle_45 rfl ?_
        refine xm_iaload d_M_settle_46 rfl (by decide) hz rfl (by omega) (by decide) ?_
        refine xp_isub d_M_settle_47 ?_
        refine xp_istore_n d_M_settle_48 (by decide) ?_
        refine xp_aload_n d_M_settle_49 rfl ?_
        refine xm_getR d_M_settle_50 fg_M_38 hz (by assumption) ?_
        refine xp_iload_n d_M_settle_53 rfl ?_
        refine xp_aload_n d_M_settle_54 rfl ?_
        refine xm_getR d_M_settle_55 fg_M_38 hz (by assumption) ?_
        refine xp_iload_n d_M_settle_58 rfl ?_
        refine xm_iaload d_M_settle_59 rfl (by decide) hz rfl (by omega) (by decide) ?_
        refine xp_iload_n d_M_settle_60 rfl ?_
        refine xp_iadd d_M_settle_61 ?_
        refine xp_sipush (v := 10000) d_M_settle_62 (by decide) ?_
        refine xq_S2r d_M_settle_65 g_M_settle_220 rfl rfl ?_
        refine c_M_held ?_
        refine ⟨_, rfl, ?_⟩
        refine xm_iastore d_M_settle_68 rfl (by decide) hz rfl (by omega) (by decide) ?_
        refine xp_aload_n d_M_settle_69 rfl ?_
        refine xm_getR d_M_settle_70 fg_M_32 hz (by assumption) ?_
        refine xp_iload_n d_M_settle_73 rfl ?_
        refine xm_iaload d_M_settle_74 rfl (by decide) hz rfl (by omega) (by decide) ?_
        refine xp_iload_n d_M_settle_75 rfl ?_
        refine xp_imul d_M_settle_76 ?_
        refine xp_aload_n d_M_settle_77 rfl ?_
        refine xm_getR d_M_settle_78 fg_M_35 hz (by assumption) ?_
        refine xp_iload_n d_M_settle_81 rfl ?_
        refine xm_iaload d_M_settle_82 rfl (by decide) hz rfl (by omega) (by decide) ?_
        refine xp_aload_n d_M_settle_83 rfl ?_
        refine xm_getR d_M_settle_84 fg_M_38 hz (by assumption) ?_
        refine xp_iload_n d_M_settle_87 rfl ?_
        refine xm_iaload d_M_settle_88 rfl (by decide) hz rfl (by omega) (by decide) ?_
        refine xp_imul d_M_settle_89 ?_
        refine xp_iadd d_M_settle_90 ?_
        refine xp_bipush (v := 16) d_M_settle_91 (by decide) ?_
        refine xq_S2r d_M_settle_93 g_M_settle_223 rfl rfl ?_
        refine c_M_quotient (by decide) ?_
        refine ⟨_, rfl, ?_⟩
        refine xp_istore_n d_M_settle_96 (by decide) ?_
        refine xp_aload_n d_M_settle_97 rfl ?_
        refine xm_getR d_M_settle_98 fg_M_41 hz (by assumption) ?_
        refine xp_bipush (v := 17) d_M_settle_101 (by decide) ?_
        refine xp_iload_n d_M_settle_103 rfl ?_
        refine xp_imul d_M_settle_104 ?_
        refine xp_bipush (v := 15) d_M_settle_105 (by decide) ?_
        refine xp_iadd d_M_settle_107 ?_
        refine xp_iload_n d_M_settle_108 rfl ?_
        refine xp_sipush (v := 1000) d_M_settle_109 (by decide) ?_
        refine xq_S2r d_M_settle_112 g_M_settle_220 rfl rfl ?_
        refine c_M_held ?_
        refine ⟨_, rfl, ?_⟩
        refine xm_iastore d_M_settle_115 rfl (by decide) hz (x_mulA 17 n 15) (by omega) (by decide) ?_
        refine xp_aload_n d_M_settle_116 rfl ?_
        refine xm_getR d_M_settle_117 fg_M_44 hz (by assumption) ?_
        refine xp_bipush (v := 17) d_M_settle_120 (by decide) ?_
        refine xp_iload_n d_M_settle_122 rfl ?_
        refine xp_imul d_M_settle_123 ?_
        refine xp_bipush (v := 15) d_M_settle_124 (by decide) ?_
        refine xp_iadd d_M_settle_126 ?_
        refine xp_iconst (v := 1) d_M_settle_127 (by decide) ?_
        refine xm_bastore d_M_settle_128 rfl (by decide) hz (x_mulA 17 n 15) (by omega) (by decide) (by first | exact Or.inl rfl | exact Or.inr rfl | assumption) ?_
        refine xp_inc1 d_M_settle_129 rfl (by decide) ?_
        refine xp_goto (tgt := 2) d_M_settle_132 (by decide) ?_
        refine xp_loc (lv' := [(0, .ref 68), (1, .int (nI (n + 1)))]) ⟨rfl, rfl, trivial⟩ ?_
        simp only [if_neg c14, if_neg c23] at hh
        exact hh
      · skip
        refine xp_aload_n d_M_settle_26 rfl ?_
        refine xm_getR d_M_settle_27 fg_M_35 hz (by assumption) ?_
        refine xp_iload_n d_M_settle_30 rfl ?_
        refine xm_iaload d_M_settle_31 rfl (by decide) hz rfl (by omega) (by decide) ?_
        refine xp_if_eq (tgt := 129) d_M_settle_32 (by decide) (fun c32 => ?_) (fun c32 => ?_)
        · skip
          refine xp_inc1 d_M_settle_129 rfl (by decide) ?_
          refine xp_goto (tgt := 2) d_M_settle_132 (by decide) ?_
          refine xp_loc (lv' := [(0, .ref 68), (1, .int (nI (n + 1)))]) ⟨rfl, rfl, trivial⟩ ?_
          simp only [if_neg c14, if_pos c23, if_pos c32] at hh
          exact hh
        · skip
          refine xp_aload_n d_M_settle_35 rfl ?_
          refine xm_getR d_M_settle_36 fg_M_29 hz (by assumption) ?_
          refine xp_iload_n d_M_settle_39 rfl ?_
          refine xm_iaload d_M_settle_40 rfl (by decide) hz rfl (by omega) (by decide) ?_
          refine xp_aload_n d_M_settle_41 rfl ?_
          refine xm_getR d_M_settle_42 fg_M_26 hz (by assumption) ?_
          refine xp_iload_n d_M_settle_45 rfl ?_
          refine xm_iaload d_M_settle_46 rfl (by decide) hz rfl (by omega) (by decide) ?_
          refine xp_isub d_M_settle_47 ?_
          refine xp_istore_n d_M_settle_48 (by decide) ?_
          refine xp_aload_n d_M_settle_49 rfl ?_
          refine xm_getR d_M_settle_50 fg_M_38 hz (by assumption) ?_
          refine xp_iload_n d_M_settle_53 rfl ?_
          refine xp_aload_n d_M_settle_54 rfl ?_
          refine xm_getR d_M_settle_55 fg_M_38 hz (by assumption) ?_
          refine xp_iload_n d_M_settle_58 rfl ?_
          refine xm_iaload d_M_settle_59 rfl (by decide) hz rfl (by omega) (by decide) ?_
          refine xp_iload_n d_M_settle_60 rfl ?_
          refine xp_iadd d_M_settle_61 ?_
          refine xp_sipush (v := 10000) d_M_settle_62 (by decide) ?_
          refine xq_S2r d_M_settle_65 g_M_settle_220 rfl rfl ?_
          refine c_M_held ?_
          refine ⟨_, rfl, ?_⟩
          refine xm_iastore d_M_settle_68 rfl (by decide) hz rfl (by omega) (by decide) ?_
          refine xp_aload_n d_M_settle_69 rfl ?_
          refine xm_getR d_M_settle_70 fg_M_32 hz (by assumption) ?_
          refine xp_iload_n d_M_settle_73 rfl ?_
          refine xm_iaload d_M_settle_74 rfl (by decide) hz rfl (by omega) (by decide) ?_
          refine xp_iload_n d_M_settle_75 rfl ?_
          refine xp_imul d_M_settle_76 ?_
          refine xp_aload_n d_M_settle_77 rfl ?_
          refine xm_getR d_M_settle_78 fg_M_35 hz (by assumption) ?_
          refine xp_iload_n d_M_settle_81 rfl ?_
          refine xm_iaload d_M_settle_82 rfl (by decide) hz rfl (by omega) (by decide) ?_
          refine xp_aload_n d_M_settle_83 rfl ?_
          refine xm_getR d_M_settle_84 fg_M_38 hz (by assumption) ?_
          refine xp_iload_n d_M_settle_87 rfl ?_
          refine xm_iaload d_M_settle_88 rfl (by decide) hz rfl (by omega) (by decide) ?_
          refine xp_imul d_M_settle_89 ?_
          refine xp_iadd d_M_settle_90 ?_
          refine xp_bipush (v := 16) d_M_settle_91 (by decide) ?_
          refine xq_S2r d_M_settle_93 g_M_settle_223 rfl rfl ?_
          refine c_M_quotient (by decide) ?_
          refine ⟨_, rfl, ?_⟩
          refine xp_istore_n d_M_settle_96 (by decide) ?_
          refine xp_aload_n d_M_settle_97 rfl ?_
          refine xm_getR d_M_settle_98 fg_M_41 hz (by assumption) ?_
          refine xp_bipush (v := 17) d_M_settle_101 (by decide) ?_
          refine xp_iload_n d_M_settle_103 rfl ?_
          refine xp_imul d_M_settle_104 ?_
          refine xp_bipush (v := 15) d_M_settle_105 (by decide) ?_
          refine xp_iadd d_M_settle_107 ?_
          refine xp_iload_n d_M_settle_108 rfl ?_
          refine xp_sipush (v := 1000) d_M_settle_109 (by decide) ?_
          refine xq_S2r d_M_settle_112 g_M_settle_220 rfl rfl ?_
          refine c_M_held ?_
          refine ⟨_, rfl, ?_⟩
          refine xm_iastore d_M_settle_115 rfl (by decide) hz (x_mulA 17 n 15) (by omega) (by decide) ?_
          refine xp_aload_n d_M_settle_116 rfl ?_
          refine xm_getR d_M_settle_117 fg_M_44 hz (by assumption) ?_
          refine xp_bipush (v := 17) d_M_settle_120 (by decide) ?_
          refine xp_iload_n d_M_settle_122 rfl ?_
          refine xp_imul d_M_settle_123 ?_
          refine xp_bipush (v := 15) d_M_settle_124 (by decide) ?_
          refine xp_iadd d_M_settle_126 ?_
          refine xp_iconst (v := 1) d_M_settle_127 (by decide) ?_
          refine xm_bastore d_M_settle_128 rfl (by decide) hz (x_mulA 17 n 15) (by omega) (by decide) (by first | exact Or.inl rfl | exact Or.inr rfl | assumption) ?_
          refine xp_inc1 d_M_settle_129 rfl (by decide) ?_
          refine xp_goto (tgt := 2) d_M_settle_132 (by decide) ?_
          refine xp_loc (lv' := [(0, .ref 68), (1, .int (nI (n + 1)))]) ⟨rfl, rfl, trivial⟩ ?_
          simp only [if_neg c14, if_pos c23, if_neg c32] at hh
          exact hh
set_option maxRecDepth 100000 in
set_option maxHeartbeats 1000000 in
theorem l_M_settle_137 (hm : x_mdl z P) {m : Nat} (em : J 68 22 = nI m) (hm6 : m ≤ 18) (hk6 : ∀ q, q < m → ∃ k, k < 6 ∧ J 90 q = nI k) (hp : post none (z, x_mg I (s_seB J m), P)) : ∀ q k : Nat, q + k = m → xp G M_M_settle 137 [(0, .ref 68), (1, .int (nI k))] [] (z, x_mg I (s_seB J k), P) 0 0 post := by
  obtain ⟨hz, m_powered, m_next, m_polled, m_count, m_tokens, m_input, m_setpoint, m_gainP, m_gainI, m_sum, m_level, m_taken, m_from, m_target, m_what, m_given, m_state, m_tries, m_got, m_error, m_reply, m_kept, m_whose, m_object, m_seen, m_due, m_notedNode, m_notedObject, m_notedValue, m_notices, m_bytes, m_length⟩ := id hm
  intro q
  induction q with
  | zero =>
    intro k hk
    have hk : k = m := by omega
    subst hk
    refine xp_iload_n d_M_settle_137 rfl ?_
    refine xp_aload_n d_M_settle_138 rfl ?_
    refine xm_getI d_M_settle_139 fg_M_115 hz ?_
    refine xp_icmp_ge (tgt := 218) d_M_settle_142 (by decide) (fun c142 => ?_) (fun c142 => absurd (show s_seB J k 68 22 ≤ nI k by rw [s_seB_ne (by omega), em]; exact nI_le (Nat.le_refl _) (by omega)) c142)
    refine xp_return_ d_M_settle_218 rfl ?_
    exact hp
  | succ q ih =>
    intro k hk
    obtain ⟨k6, hk7, ek0⟩ := hk6 k (by omega)
    have e90 : s_seB J k 90 k = nI k6 := (s_seB_ne (by omega) k).trans ek0
    have ek : k_tn (s_seB J k 90 k) = k6 := by rw [e90]; exact k_tn_nI (by omega)
    have hh := ih (k + 1) (by omega)
    unfold s_seB s_dq s_far at hh
    rw [ek] at hh
    refine xp_iload_n d_M_settle_137 rfl ?_
    refine xp_aload_n d_M_settle_138 rfl ?_
    refine xm_getI d_M_settle_139 fg_M_115 hz ?_
    refine xp_icmp_ge (tgt := 218) d_M_settle_142 (by decide) (fun c142 => absurd c142 (fun e => by rw [s_seB_ne (by omega), em] at e; have := (nI_leI (a := m) (b := k) (by omega) (by omega)).mp e; omega)) (fun c142 => ?_)
    refine xp_aload_n d_M_settle_145 rfl ?_
    refine xm_getR d_M_settle_146 fg_M_7 hz (by assumption) ?_
    refine xp_aload_n d_M_settle_149 rfl ?_
    refine xm_getR d_M_settle_150 fg_M_74 hz (by assumption) ?_
    refine xp_iload_n d_M_settle_153 rfl ?_
    refine xm_iaload d_M_settle_154 rfl (by decide) hz rfl (by omega) (by decide) ?_
    refine xm_baload d_M_settle_155 rfl (by decide) hz e90 (by omega) (by decide) ?_
    refine xp_if_eq (tgt := 212) d_M_settle_156 (by decide) (fun c156 => ?_) (fun c156 => ?_)
    · skip
      refine xp_inc1 d_M_settle_212 rfl (by decide) ?_
      refine xp_goto (tgt := 137) d_M_settle_215 (by decide) ?_
      refine xp_loc (lv' := [(0, .ref 68), (1, .int (nI (k + 1)))]) ⟨rfl, rfl, trivial⟩ ?_
      simp only [if_pos c156] at hh
      exact hh
    · skip
      refine xp_aload_n d_M_settle_159 rfl ?_
      refine xp_aload_n d_M_settle_160 rfl ?_
      refine xm_getR d_M_settle_161 fg_M_74 hz (by assumption) ?_
      refine xp_iload_n d_M_settle_164 rfl ?_
      refine xm_iaload d_M_settle_165 rfl (by decide) hz rfl (by omega) (by decide) ?_
      refine xp_aload_n d_M_settle_166 rfl ?_
      refine xm_getR d_M_settle_167 fg_M_80 hz (by assumption) ?_
      refine xp_iload_n d_M_settle_170 rfl ?_
      refine xm_iaload d_M_settle_171 rfl (by decide) hz rfl (by omega) (by decide) ?_
      refine xq_V2r d_M_settle_172 g_M_settle_162 (x_mA hz) rfl rfl ?_
      refine c_M_value hm ?_
      refine ⟨_, rfl, ?_⟩
      refine xp_i2l d_M_settle_175 ?_
      refine xp_aload_n d_M_settle_176 rfl ?_
      refine xm_getR d_M_settle_177 fg_M_83 hz (by assumption) ?_
      refine xp_iload_n d_M_settle_180 rfl ?_
      refine xm_iaload d_M_settle_181 rfl (by decide) hz rfl (by omega) (by decide) ?_
      refine xp_i2l d_M_settle_182 ?_
      refine xp_lsub d_M_settle_183 ?_
      refine xp_lstore_n d_M_settle_184 (by decide) ?_
      refine xp_aload_n d_M_settle_185 rfl ?_
      refine xm_getR d_M_settle_186 fg_M_86 hz (by assumption) ?_
      refine xp_iload_n d_M_settle_189 rfl ?_
      refine xp_lload_n d_M_settle_190 rfl ?_
      refine xp_ldc2 d_M_settle_191 ct_M_226 ?_
      refine xp_lcmp d_M_settle_194 ?_
      refine xp_if_ge (tgt := 206) d_M_settle_195 (by decide) (fun c195 => ?_) (fun c195 => ?_)
      · skip
        refine xp_iconst (v := 1) d_M_settle_206 (by decide) ?_
        refine xp_goto (tgt := 211) d_M_settle_207 (by decide) ?_
        refine xm_bastore d_M_settle_211 rfl (by decide) hz rfl (by omega) (by decide) (by first | exact Or.inl rfl | exact Or.inr rfl | assumption) ?_
        refine xp_inc1 d_M_settle_212 rfl (by decide) ?_
        refine xp_goto (tgt := 137) d_M_settle_215 (by decide) ?_
        refine xp_loc (lv' := [(0, .ref 68), (1, .int (nI (k + 1)))]) ⟨rfl, rfl, trivial⟩ ?_
        simp only [if_neg c156, if_pos c195] at hh
        exact hh
      · skip
        refine xp_lload_n d_M_settle_198 rfl ?_
        refine xp_ldc2 d_M_settle_199 ct_M_228 ?_
        refine xp_lcmp d_M_settle_202 ?_
        refine xp_if_gt (tgt := 210) d_M_settle_203 (by decide) (fun c203 => ?_) (fun c203 => ?_)
        · skip
          refine xp_iconst (v := 0) d_M_settle_210 (by decide) ?_
          refine xm_bastore d_M_settle_211 rfl (by decide) hz rfl (by omega) (by decide) (by first | exact Or.inl rfl | exact Or.inr rfl | assumption) ?_
          refine xp_inc1 d_M_settle_212 rfl (by decide) ?_
          refine xp_goto (tgt := 137) d_M_settle_215 (by decide) ?_
          refine xp_loc (lv' := [(0, .ref 68), (1, .int (nI (k + 1)))]) ⟨rfl, rfl, trivial⟩ ?_
          simp only [if_neg c156, if_neg c195, if_pos c203] at hh
          exact hh
        · skip
          refine xp_iconst (v := 1) d_M_settle_206 (by decide) ?_
          refine xp_goto (tgt := 211) d_M_settle_207 (by decide) ?_
          refine xm_bastore d_M_settle_211 rfl (by decide) hz rfl (by omega) (by decide) (by first | exact Or.inl rfl | exact Or.inr rfl | assumption) ?_
          refine xp_inc1 d_M_settle_212 rfl (by decide) ?_
          refine xp_goto (tgt := 137) d_M_settle_215 (by decide) ?_
          refine xp_loc (lv' := [(0, .ref 68), (1, .int (nI (k + 1)))]) ⟨rfl, rfl, trivial⟩ ?_
          simp only [if_neg c156, if_neg c195, if_neg c203] at hh
          exact hh
set_option maxRecDepth 100000 in
set_option maxHeartbeats 1000000 in
theorem c_M_settle (hm : x_mdl z P) {m : Nat} (em : J 68 22 = nI m) (hm6 : m ≤ 18) (hk6 : ∀ q, q < m → ∃ k, k < 6 ∧ J 90 q = nI k) (hp : post none (z, x_mg I (s_set J m), P)) : xp G M_M_settle 0 [(0, .ref 68)] [] (z, x_mg I J, P) 0 0 post := by
  obtain ⟨hz, m_powered, m_next, m_polled, m_count, m_tokens, m_input, m_setpoint, m_gainP, m_gainI, m_sum, m_level, m_taken, m_from, m_target, m_what, m_given, m_state, m_tries, m_got, m_error, m_reply, m_kept, m_whose, m_object, m_seen, m_due, m_notedNode, m_notedObject, m_notedValue, m_notices, m_bytes, m_length⟩ := id hm
  refine xp_iconst (v := 0) d_M_settle_0 (by decide) ?_
  refine xp_istore_n d_M_settle_1 (by decide) ?_
  refine xp_loc (lv' := [(0, .ref 68), (1, .int (nI 0))]) ⟨rfl, rfl, trivial⟩ ?_
  refine l_M_settle_2 (J := J) hm ?_ 6 0 rfl
  refine xp_iconst (v := 0) d_M_settle_135 (by decide) ?_
  refine xp_istore_n d_M_settle_136 (by decide) ?_
  refine xp_loc (lv' := [(0, .ref 68), (1, .int (nI 0))]) ⟨rfl, rfl, trivial⟩ ?_
  exact l_M_settle_137 (J := s_seA J 6) hm ((s_seA_ne (by omega) 6).trans em) hm6 (fun q hq => by rw [s_seA_ne (by omega) 6]; exact hk6 q hq) hp m 0 rfl
set_option maxRecDepth 100000 in
set_option maxHeartbeats 1000000 in
theorem l_M_step_91 (hm : x_mdl z P) {m2 : Nat} (em2 : J 68 22 = nI m2) (hm2 : m2 ≤ 18) (hk2 : ∀ q, q < m2 → ∃ k, k < 6 ∧ J 90 q = nI k) (hp : post (some (.int (s_e (s_set J m2) 68 39))) (z, x_mg I (s_e (s_set J m2)), P)) : xp G M_M_step 91 [(0, .ref 68)] [] (z, x_mg I J, P) 0 0 post := by
  obtain ⟨hz, m_powered, m_next, m_polled, m_count, m_tokens, m_input, m_setpoint, m_gainP, m_gainI, m_sum, m_level, m_taken, m_from, m_target, m_what, m_given, m_state, m_tries, m_got, m_error, m_reply, m_kept, m_whose, m_object, m_seen, m_due, m_notedNode, m_notedObject, m_notedValue, m_notices, m_bytes, m_length⟩ := id hm
  refine xp_aload_n d_M_step_91 rfl ?_
  refine xq_V0v d_M_step_92 g_M_step_242 (x_mA hz) rfl rfl ?_
  refine c_M_settle hm em2 hm2 hk2 ?_
  refine ⟨rfl, ?_⟩
  refine xp_aload_n d_M_step_95 rfl ?_
  refine xp_dup d_M_step_96 rfl ?_
  refine xm_getI d_M_step_97 fg_M_245 hz ?_
  refine xp_aload_n d_M_step_100 rfl ?_
  refine xm_getI d_M_step_101 fg_M_147 hz ?_
  refine xp_iadd d_M_step_104 ?_
  refine xm_putI d_M_step_105 f_M_245 hz ?_
  refine xp_aload_n d_M_step_108 rfl ?_
  refine xp_iconst (v := 0) d_M_step_109 (by decide) ?_
  refine xm_putI d_M_step_110 f_M_138 hz ?_
  refine xp_aload_n d_M_step_113 rfl ?_
  refine xm_getI d_M_step_114 fg_M_147 hz ?_
  refine xp_ireturn d_M_step_117 rfl rfl ?_
  exact hp
set_option maxRecDepth 100000 in
set_option maxHeartbeats 1000000 in
theorem c_M_step (hm : x_mdl z P) {s h nx : Nat} (hs : s < 18) (es : J 68 43 = nI s) (hH : 0 ≤ J 68 32 → h < 6 ∧ J 68 32 = nI h ∧ nx < 6 ∧ J 70 h = nI nx) {m made : Nat} (em : J 68 22 = nI m) (hm6 : m ≤ 18) (ea : J 68 12 = nI made) (ha6 : made ≤ 60) (hw : ∀ q, q < m → ∃ w, w < 6 ∧ J 91 q = nI w) (hr : ∀ r, r < made → ∃ t, t < 6 ∧ J 82 r = nI t) (hroom : ∀ t, t < 6 → ¬ s_sof J (nI t) m = 3 → m < 18) {m2 : Nat} (em2 : s_ma (s_b J) s h m made 68 22 = nI m2) (hm2 : m2 ≤ 18) (hk2 : ∀ q, q < m2 → ∃ k, k < 6 ∧ s_ma (s_b J) s h m made 90 q = nI k) (hp : post (some (.int (s_e (s_set (s_ma (s_b J) s h m made) m2) 68 39))) (z, x_mg I (s_e (s_set (s_ma (s_b J) s h m made) m2)), P)) : xp G M_M_step 0 [(0, .ref 68)] [] (z, x_mg I J, P) 0 0 post := by
  obtain ⟨hz, m_powered, m_next, m_polled, m_count, m_tokens, m_input, m_setpoint, m_gainP, m_gainI, m_sum, m_level, m_taken, m_from, m_target, m_what, m_given, m_state, m_tries, m_got, m_error, m_reply, m_kept, m_whose, m_object, m_seen, m_due, m_notedNode, m_notedObject, m_notedValue, m_notices, m_bytes, m_length⟩ := id hm
  have ef : s_b J 68 39 = nI 0 := by unfold s_b; rw [x_up_ne (by omega), x_up_ne (by omega), x_up_ne (by omega), x_up_eq ⟨rfl, rfl⟩]; rfl
  have es0 : s_b J 68 43 = nI s := (s_b_ne (by omega) (by omega)).trans es
  have em0 : s_b J 68 22 = nI m := (s_b_ne (by omega) (by omega)).trans em
  have ea0 : s_b J 68 12 = nI made := (s_b_ne (by omega) (by omega)).trans ea
  have hw0 : ∀ q, q < m → ∃ w, w < 6 ∧ s_b J 91 q = nI w := fun q hq => by rw [s_b_ne (by omega) (by omega)]; exact hw q hq
  have hr0 : ∀ r, r < made → ∃ t, t < 6 ∧ s_b J 82 r = nI t := fun r h2 => by rw [s_b_ne (by omega) (by omega)]; exact hr r h2
  have hroom0 : ∀ t, t < 6 → ¬ s_sof (s_b J) (nI t) m = 3 → m < 18 := fun t ht => by rw [s_sof_row (J' := s_b J) (J := J) (fun k => s_b_ne (by omega) (by omega))]; exact hroom t ht
  unfold s_ma at hp em2 hk2
  refine xp_aload_n d_M_step_0 rfl ?_
  refine xp_iconst (v := 0) d_M_step_1 (by decide) ?_
  refine xm_putI d_M_step_2 f_M_147 hz ?_
  refine xp_aload_n d_M_step_5 rfl ?_
  refine xm_getR d_M_step_6 fg_M_104 hz (by assumption) ?_
  refine xp_iconst (v := 0) d_M_step_9 (by decide) ?_
  refine xp_iconst (v := 0) d_M_step_10 (by decide) ?_
  refine xm_iastore (j := 0) d_M_step_11 rfl (by decide) hz rfl (by omega) (by decide) ?_
  refine xp_aload_n d_M_step_12 rfl ?_
  refine xm_getR d_M_step_13 fg_M_104 hz (by assumption) ?_
  refine xp_iconst (v := 1) d_M_step_16 (by decide) ?_
  refine xp_iconst (v := 0) d_M_step_17 (by decide) ?_
  refine xm_iastore (j := 1) d_M_step_18 rfl (by decide) hz rfl (by omega) (by decide) ?_
  refine xp_aload_n d_M_step_19 rfl ?_
  refine xp_dup d_M_step_20 rfl ?_
  refine xm_getI d_M_step_21 fg_M_230 hz ?_
  refine xp_iconst (v := 1) d_M_step_24 (by decide) ?_
  refine xp_iadd d_M_step_25 ?_
  refine xm_putI d_M_step_26 f_M_230 hz ?_
  change xp G M_M_step _ _ _ (z, x_mg I (s_b J), P) _ _ _
  refine xp_aload_n d_M_step_29 rfl ?_
  refine xm_getI d_M_step_30 fg_M_107 hz ?_
  refine xp_if_ge (tgt := 43) d_M_step_33 (by decide) (fun c33 => ?_) (fun c33 => ?_)
  · skip
    obtain ⟨hh, eh0, hnx, enx0⟩ := hH (by have q := c33; rw [s_b_ne (by omega) (by omega)] at q; exact q)
    have eh : s_b J 68 32 = nI h := (s_b_ne (by omega) (by omega)).trans eh0
    have enx : s_b J 70 h = nI nx := (s_b_ne (by omega) (by omega)).trans enx0
    refine xp_aload_n d_M_step_43 rfl ?_
    refine xm_getI d_M_step_44 fg_M_190 hz ?_
    refine xp_if_ne (tgt := 57) d_M_step_47 (by decide) (fun c47 => ?_) (fun c47 => ?_)
    · skip
      refine xp_aload_n d_M_step_57 rfl ?_
      refine xm_getI d_M_step_58 fg_M_190 hz ?_
      refine xp_iconst (v := 1) d_M_step_61 (by decide) ?_
      refine xp_icmp_ne (tgt := 72) d_M_step_62 (by decide) (fun c62 => ?_) (fun c62 => ?_)
      · skip
        refine xp_aload_n d_M_step_72 rfl ?_
        refine xm_getI d_M_step_73 fg_M_190 hz ?_
        refine xp_iconst (v := 2) d_M_step_76 (by decide) ?_
        refine xp_icmp_ne (tgt := 87) d_M_step_77 (by decide) (fun c77 => ?_) (fun c77 => ?_)
        · skip
          refine xp_aload_n d_M_step_87 rfl ?_
          refine xq_V0v d_M_step_88 g_M_step_239 (x_mA hz) rfl rfl ?_
          refine c_M_search hm hh eh ef hs es0 ?_
          refine ⟨rfl, ?_⟩
          refine xp_loc (lv' := [(0, .ref 68)]) ⟨rfl, trivial⟩ ?_
          simp only [if_pos c33, if_neg c47, if_neg c62, if_neg c77] at hp em2 hk2
          exact l_M_step_91 hm em2 hm2 hk2 hp
        · skip
          refine xp_aload_n d_M_step_80 rfl ?_
          refine xq_V0v d_M_step_81 g_M_step_199 (x_mA hz) rfl rfl ?_
          refine c_M_pass hm hh eh ef hs es0 hnx enx ?_
          refine ⟨rfl, ?_⟩
          refine xp_goto (tgt := 91) d_M_step_84 (by decide) ?_
          refine xp_loc (lv' := [(0, .ref 68)]) ⟨rfl, trivial⟩ ?_
          simp only [if_pos c33, if_neg c47, if_neg c62, if_pos c77] at hp em2 hk2
          exact l_M_step_91 hm em2 hm2 hk2 hp
      · skip
        refine xp_aload_n d_M_step_65 rfl ?_
        refine xq_V0v d_M_step_66 g_M_step_193 (x_mA hz) rfl rfl ?_
        refine c_M_poll hm hh eh ef hs es0 hnx enx ?_
        refine ⟨rfl, ?_⟩
        refine xp_goto (tgt := 91) d_M_step_69 (by decide) ?_
        refine xp_loc (lv' := [(0, .ref 68)]) ⟨rfl, trivial⟩ ?_
        simp only [if_pos c33, if_neg c47, if_pos c62] at hp em2 hk2
        exact l_M_step_91 hm em2 hm2 hk2 hp
    · skip
      refine xp_aload_n d_M_step_50 rfl ?_
      refine xq_V0v d_M_step_51 g_M_step_236 (x_mA hz) rfl rfl ?_
      refine c_M_use hm hh eh ef hs es0 hnx enx em0 hm6 ea0 ha6 hw0 hr0 hroom0 ?_
      refine ⟨rfl, ?_⟩
      refine xp_goto (tgt := 91) d_M_step_54 (by decide) ?_
      refine xp_loc (lv' := [(0, .ref 68)]) ⟨rfl, trivial⟩ ?_
      simp only [if_pos c33, if_pos c47] at hp em2 hk2
      exact l_M_step_91 hm em2 hm2 hk2 hp
  · skip
    refine xp_aload_n d_M_step_36 rfl ?_
    refine xq_V0v d_M_step_37 g_M_step_233 (x_mA hz) rfl rfl ?_
    refine c_M_listen hm ?_
    refine ⟨rfl, ?_⟩
    refine xp_goto (tgt := 91) d_M_step_40 (by decide) ?_
    refine xp_loc (lv' := [(0, .ref 68)]) ⟨rfl, trivial⟩ ?_
    simp only [if_neg c33] at hp em2 hk2
    exact l_M_step_91 hm em2 hm2 hk2 hp
end partAC
