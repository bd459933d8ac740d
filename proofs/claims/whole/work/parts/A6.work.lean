/-! the model's subscriptions and requests -/
theorem x_ite0 {α : Sort _} (a b : α) : (if (0 : Int32) = 0 then a else b) = a := if_pos rfl
theorem x_ite1 {α : Sort _} (a b : α) : (if (1 : Int32) = 0 then a else b) = b := if_neg (by decide)
def s_ix (o : Option Nat) : Int32 := match o with
  | some k => nI k
  | none => -1
def s_dueO (J : xI) (n : Int32) (m : Nat) : Option Nat := k_srch (fun k => decide (J 90 k = n ∧ ¬ J 94 k = 0)) m 0
def s_firO (J : xI) (n : Int32) (m : Nat) : Option Nat := k_srch (fun k => decide (J 81 k = n ∧ J 85 k = 0)) m 0
def s_sbO (J : xI) (n who ob : Int32) (m : Nat) : Option Nat := k_srch (fun k => decide (J 90 k = n ∧ J 91 k = who ∧ J 92 k = ob)) m 0
def s_sn (J : xI) (q : Nat) (n ob : Int32) : xI := x_up (x_up J 93 q (s_val J n ob)) 94 q 0
abbrev s_sb3 (J : xI) (n who ob : Int32) (m : Nat) : xI := x_up (x_up (x_up J 90 m n) 91 m who) 92 m ob
def s_sbJ (J : xI) (n who ob : Int32) (m : Nat) : xI := match s_sbO J n who ob m with
  | some q => s_sn J q n ob
  | none => if s_sof J n m = 3 then J else s_sn (x_up (s_sb3 J n who ob m) 68 22 (s_sb3 J n who ob m 68 22 + 1)) m n ob
def s_sbV (J : xI) (n who ob : Int32) (m : Nat) : Int32 := match s_sbO J n who ob m with
  | some _ => 0
  | none => if s_sof J n m = 3 then 1 else 0
theorem s_sbV_01 (J : xI) (n who ob : Int32) (m : Nat) : s_sbV J n who ob m = 0 ∨ s_sbV J n who ob m = 1 := by
  unfold s_sbV
  cases s_sbO J n who ob m with
  | some q => exact Or.inl rfl
  | none =>
    dsimp only
    by_cases h : s_sof J n m = 3
    · exact Or.inr (if_pos h)
    · exact Or.inl (if_neg h)
section partA6
variable {G : xG} {z : Nat} {I J : xI} {P : xP} {post : Option Value → xH → Prop} {h0 : xH}
set_option maxRecDepth 100000 in
set_option maxHeartbeats 1000000 in
theorem l_M_dueOf_2 (hm : x_mdl z P) {n : Int32} {m : Nat} (em : J 68 22 = nI m) (hm6 : m ≤ 18) : ∀ q k : Nat, q + k = m → (post (some (.int (s_ix (k_srch (fun k => decide (J 90 k = n ∧ ¬ J 94 k = 0)) q k)))) (z, x_mg I J, P)) → xp G M_M_dueOf 2 [(0, .ref 68), (1, .int n), (2, .int (nI k))] [] (z, x_mg I J, P) 0 0 post := by
  obtain ⟨hz, m_powered, m_next, m_polled, m_count, m_tokens, m_input, m_setpoint, m_gainP, m_gainI, m_sum, m_level, m_taken, m_from, m_target, m_what, m_given, m_state, m_tries, m_got, m_error, m_reply, m_kept, m_whose, m_object, m_seen, m_due, m_notedNode, m_notedObject, m_notedValue, m_notices, m_bytes, m_length⟩ := id hm
  intro q
  induction q with
  | zero =>
    intro k hk hp
    refine xp_iload_n d_M_dueOf_2 rfl ?_
    refine xp_aload_n d_M_dueOf_3 rfl ?_
    refine xm_getI d_M_dueOf_4 fg_M_115 hz ?_
    refine xp_icmp_ge (tgt := 37) d_M_dueOf_7 (by decide) (fun c7 => ?_) (fun c7 => absurd (show J 68 22 ≤ nI k by rw [em]; exact nI_le (by omega) (by omega)) c7)
    refine xp_iconst (v := -1) d_M_dueOf_37 (by decide) ?_
    refine xp_ireturn d_M_dueOf_38 rfl rfl ?_
    exact hp
  | succ q ih =>
    intro k hk hp
    unfold k_srch at hp
    refine xp_iload_n d_M_dueOf_2 rfl ?_
    refine xp_aload_n d_M_dueOf_3 rfl ?_
    refine xm_getI d_M_dueOf_4 fg_M_115 hz ?_
    refine xp_icmp_ge (tgt := 37) d_M_dueOf_7 (by decide) (fun c7 => absurd c7 (fun e => by rw [em] at e; have := (nI_leI (a := m) (b := k) (by omega) (by omega)).mp e; omega)) (fun c7 => ?_)
    refine xp_aload_n d_M_dueOf_10 rfl ?_
    refine xm_getR d_M_dueOf_11 fg_M_74 hz (by assumption) ?_
    refine xp_iload_n d_M_dueOf_14 rfl ?_
    refine xm_iaload d_M_dueOf_15 rfl (by decide) hz rfl (by omega) (by decide) ?_
    refine xp_iload_n d_M_dueOf_16 rfl ?_
    refine xp_icmp_ne (tgt := 31) d_M_dueOf_17 (by decide) (fun c17 => ?_) (fun c17 => ?_)
    · skip
      refine xp_inc1 d_M_dueOf_31 rfl (by decide) ?_
      refine xp_goto (tgt := 2) d_M_dueOf_34 (by decide) ?_
      refine xp_loc (lv' := [(0, .ref 68), (1, .int n), (2, .int (nI (k + 1)))]) ⟨rfl, rfl, rfl, trivial⟩ ?_
      rw [if_neg (fun e => by obtain ⟨e1, e2⟩ := of_decide_eq_true e; first | exact c17 e1 | exact c26 e2 | exact e2 c26)] at hp
      exact ih (k + 1) (by omega) hp
    · skip
      refine xp_aload_n d_M_dueOf_20 rfl ?_
      refine xm_getR d_M_dueOf_21 fg_M_86 hz (by assumption) ?_
      refine xp_iload_n d_M_dueOf_24 rfl ?_
      refine xm_baload d_M_dueOf_25 rfl (by decide) hz rfl (by omega) (by decide) ?_
      refine xp_if_eq (tgt := 31) d_M_dueOf_26 (by decide) (fun c26 => ?_) (fun c26 => ?_)
      · skip
        refine xp_inc1 d_M_dueOf_31 rfl (by decide) ?_
        refine xp_goto (tgt := 2) d_M_dueOf_34 (by decide) ?_
        refine xp_loc (lv' := [(0, .ref 68), (1, .int n), (2, .int (nI (k + 1)))]) ⟨rfl, rfl, rfl, trivial⟩ ?_
        rw [if_neg (fun e => by obtain ⟨e1, e2⟩ := of_decide_eq_true e; first | exact c17 e1 | exact c26 e2 | exact e2 c26)] at hp
        exact ih (k + 1) (by omega) hp
      · skip
        refine xp_iload_n d_M_dueOf_29 rfl ?_
        refine xp_ireturn d_M_dueOf_30 rfl rfl ?_
        rw [if_pos (decide_eq_true ⟨c17, c26⟩)] at hp
        exact hp
set_option maxRecDepth 100000 in
set_option maxHeartbeats 1000000 in
theorem c_M_dueOf (hm : x_mdl z P) {n : Int32} {m : Nat} (em : J 68 22 = nI m) (hm6 : m ≤ 18) (hp : post (some (.int (s_ix (s_dueO J n m)))) (z, x_mg I J, P)) : xp G M_M_dueOf 0 [(0, .ref 68), (1, .int n)] [] (z, x_mg I J, P) 0 0 post := by
  obtain ⟨hz, m_powered, m_next, m_polled, m_count, m_tokens, m_input, m_setpoint, m_gainP, m_gainI, m_sum, m_level, m_taken, m_from, m_target, m_what, m_given, m_state, m_tries, m_got, m_error, m_reply, m_kept, m_whose, m_object, m_seen, m_due, m_notedNode, m_notedObject, m_notedValue, m_notices, m_bytes, m_length⟩ := id hm
  refine xp_iconst (v := 0) d_M_dueOf_0 (by decide) ?_
  refine xp_istore_n d_M_dueOf_1 (by decide) ?_
  refine xp_loc (lv' := [(0, .ref 68), (1, .int n), (2, .int (nI 0))]) ⟨rfl, rfl, rfl, trivial⟩ ?_
  exact l_M_dueOf_2 hm em hm6 m 0 rfl hp
set_option maxRecDepth 100000 in
set_option maxHeartbeats 1000000 in
theorem l_M_firstOf_2 (hm : x_mdl z P) {n : Int32} {m : Nat} (em : J 68 12 = nI m) (hm6 : m ≤ 60) : ∀ q k : Nat, q + k = m → (post (some (.int (s_ix (k_srch (fun k => decide (J 81 k = n ∧ J 85 k = 0)) q k)))) (z, x_mg I J, P)) → xp G M_M_firstOf 2 [(0, .ref 68), (1, .int n), (2, .int (nI k))] [] (z, x_mg I J, P) 0 0 post := by
  obtain ⟨hz, m_powered, m_next, m_polled, m_count, m_tokens, m_input, m_setpoint, m_gainP, m_gainI, m_sum, m_level, m_taken, m_from, m_target, m_what, m_given, m_state, m_tries, m_got, m_error, m_reply, m_kept, m_whose, m_object, m_seen, m_due, m_notedNode, m_notedObject, m_notedValue, m_notices, m_bytes, m_length⟩ := id hm
  intro q
  induction q with
  | zero =>
    intro k hk hp
    refine xp_iload_n d_M_firstOf_2 rfl ?_
    refine xp_aload_n d_M_firstOf_3 rfl ?_
    refine xm_getI d_M_firstOf_4 fg_M_125 hz ?_
    refine xp_icmp_ge (tgt := 37) d_M_firstOf_7 (by decide) (fun c7 => ?_) (fun c7 => absurd (show J 68 12 ≤ nI k by rw [em]; exact nI_le (by omega) (by omega)) c7)
    refine xp_iconst (v := -1) d_M_firstOf_37 (by decide) ?_
    refine xp_ireturn d_M_firstOf_38 rfl rfl ?_
    exact hp
  | succ q ih =>
    intro k hk hp
    unfold k_srch at hp
    refine xp_iload_n d_M_firstOf_2 rfl ?_
    refine xp_aload_n d_M_firstOf_3 rfl ?_
    refine xm_getI d_M_firstOf_4 fg_M_125 hz ?_
    refine xp_icmp_ge (tgt := 37) d_M_firstOf_7 (by decide) (fun c7 => absurd c7 (fun e => by rw [em] at e; have := (nI_leI (a := m) (b := k) (by omega) (by omega)).mp e; omega)) (fun c7 => ?_)
    refine xp_aload_n d_M_firstOf_10 rfl ?_
    refine xm_getR d_M_firstOf_11 fg_M_47 hz (by assumption) ?_
    refine xp_iload_n d_M_firstOf_14 rfl ?_
    refine xm_iaload d_M_firstOf_15 rfl (by decide) hz rfl (by omega) (by decide) ?_
    refine xp_iload_n d_M_firstOf_16 rfl ?_
    refine xp_icmp_ne (tgt := 31) d_M_firstOf_17 (by decide) (fun c17 => ?_) (fun c17 => ?_)
    · skip
      refine xp_inc1 d_M_firstOf_31 rfl (by decide) ?_
      refine xp_goto (tgt := 2) d_M_firstOf_34 (by decide) ?_
      refine xp_loc (lv' := [(0, .ref 68), (1, .int n), (2, .int (nI (k + 1)))]) ⟨rfl, rfl, rfl, trivial⟩ ?_
      rw [if_neg (fun e => by obtain ⟨e1, e2⟩ := of_decide_eq_true e; first | exact c17 e1 | exact c26 e2 | exact e2 c26)] at hp
      exact ih (k + 1) (by omega) hp
    · skip
      refine xp_aload_n d_M_firstOf_20 rfl ?_
      refine xm_getR d_M_firstOf_21 fg_M_59 hz (by assumption) ?_
      refine xp_iload_n d_M_firstOf_24 rfl ?_
      refine xm_iaload d_M_firstOf_25 rfl (by decide) hz rfl (by omega) (by decide) ?_
      refine xp_if_ne (tgt := 31) d_M_firstOf_26 (by decide) (fun c26 => ?_) (fun c26 => ?_)
      · skip
        refine xp_inc1 d_M_firstOf_31 rfl (by decide) ?_
        refine xp_goto (tgt := 2) d_M_firstOf_34 (by decide) ?_
        refine xp_loc (lv' := [(0, .ref 68), (1, .int n), (2, .int (nI (k + 1)))]) ⟨rfl, rfl, rfl, trivial⟩ ?_
        rw [if_neg (fun e => by obtain ⟨e1, e2⟩ := of_decide_eq_true e; first | exact c17 e1 | exact c26 e2 | exact e2 c26)] at hp
        exact ih (k + 1) (by omega) hp
      · skip
        refine xp_iload_n d_M_firstOf_29 rfl ?_
        refine xp_ireturn d_M_firstOf_30 rfl rfl ?_
        rw [if_pos (decide_eq_true ⟨c17, c26⟩)] at hp
        exact hp
set_option maxRecDepth 100000 in
set_option maxHeartbeats 1000000 in
theorem c_M_firstOf (hm : x_mdl z P) {n : Int32} {m : Nat} (em : J 68 12 = nI m) (hm6 : m ≤ 60) (hp : post (some (.int (s_ix (s_firO J n m)))) (z, x_mg I J, P)) : xp G M_M_firstOf 0 [(0, .ref 68), (1, .int n)] [] (z, x_mg I J, P) 0 0 post := by
  obtain ⟨hz, m_powered, m_next, m_polled, m_count, m_tokens, m_input, m_setpoint, m_gainP, m_gainI, m_sum, m_level, m_taken, m_from, m_target, m_what, m_given, m_state, m_tries, m_got, m_error, m_reply, m_kept, m_whose, m_object, m_seen, m_due, m_notedNode, m_notedObject, m_notedValue, m_notices, m_bytes, m_length⟩ := id hm
  refine xp_iconst (v := 0) d_M_firstOf_0 (by decide) ?_
  refine xp_istore_n d_M_firstOf_1 (by decide) ?_
  refine xp_loc (lv' := [(0, .ref 68), (1, .int n), (2, .int (nI 0))]) ⟨rfl, rfl, rfl, trivial⟩ ?_
  exact l_M_firstOf_2 hm em hm6 m 0 rfl hp
set_option maxRecDepth 100000 in
set_option maxHeartbeats 1000000 in
theorem l_M_subscribe_3 (hm : x_mdl z P) {n who ob : Int32} {m : Nat} (em : J 68 22 = nI m) (hm6 : m ≤ 18) : ∀ q k : Nat, q + k = m → (∀ k1, k_srch (fun k => decide (J 90 k = n ∧ J 91 k = who ∧ J 92 k = ob)) q k = some k1 → xp G M_M_subscribe 51 [(0, .ref 68), (1, .int n), (2, .int who), (3, .int ob), (4, .int (nI k1))] [] (z, x_mg I J, P) 0 0 post) → (k_srch (fun k => decide (J 90 k = n ∧ J 91 k = who ∧ J 92 k = ob)) q k = none → xp G M_M_subscribe 51 [(0, .ref 68), (1, .int n), (2, .int who), (3, .int ob), (4, .int (nI m))] [] (z, x_mg I J, P) 0 0 post) → xp G M_M_subscribe 3 [(0, .ref 68), (1, .int n), (2, .int who), (3, .int ob), (4, .int (nI k))] [] (z, x_mg I J, P) 0 0 post := by
  obtain ⟨hz, m_powered, m_next, m_polled, m_count, m_tokens, m_input, m_setpoint, m_gainP, m_gainI, m_sum, m_level, m_taken, m_from, m_target, m_what, m_given, m_state, m_tries, m_got, m_error, m_reply, m_kept, m_whose, m_object, m_seen, m_due, m_notedNode, m_notedObject, m_notedValue, m_notices, m_bytes, m_length⟩ := id hm
  intro q
  induction q with
  | zero =>
    intro k hk h1 h2
    have hk : k = m := by omega
    subst hk
    refine xp_iload d_M_subscribe_3 rfl ?_
    refine xp_aload_n d_M_subscribe_5 rfl ?_
    refine xm_getI d_M_subscribe_6 fg_M_115 hz ?_
    refine xp_icmp_ge (tgt := 51) d_M_subscribe_9 (by decide) (fun c9 => ?_) (fun c9 => absurd (show J 68 22 ≤ nI k by rw [em]; exact nI_le (by omega) (by omega)) c9)
    refine xp_loc (lv' := [(0, .ref 68), (1, .int n), (2, .int who), (3, .int ob), (4, .int (nI k))]) ⟨rfl, rfl, rfl, rfl, rfl, trivial⟩ ?_
    exact h2 rfl
  | succ q ih =>
    intro k hk h1 h2
    unfold k_srch at h1 h2
    refine xp_iload d_M_subscribe_3 rfl ?_
    refine xp_aload_n d_M_subscribe_5 rfl ?_
    refine xm_getI d_M_subscribe_6 fg_M_115 hz ?_
    refine xp_icmp_ge (tgt := 51) d_M_subscribe_9 (by decide) (fun c9 => absurd c9 (fun e => by rw [em] at e; have := (nI_leI (a := m) (b := k) (by omega) (by omega)).mp e; omega)) (fun c9 => ?_)
    refine xp_aload_n d_M_subscribe_12 rfl ?_
    refine xm_getR d_M_subscribe_13 fg_M_74 hz (by assumption) ?_
    refine xp_iload d_M_subscribe_16 rfl ?_
    refine xm_iaload d_M_subscribe_18 rfl (by decide) hz rfl (by omega) (by decide) ?_
    refine xp_iload_n d_M_subscribe_19 rfl ?_
    refine xp_icmp_ne (tgt := 45) d_M_subscribe_20 (by decide) (fun c20 => ?_) (fun c20 => ?_)
    · skip
      refine xp_inc1 d_M_subscribe_45 rfl (by decide) ?_
      refine xp_goto (tgt := 3) d_M_subscribe_48 (by decide) ?_
      refine xp_loc (lv' := [(0, .ref 68), (1, .int n), (2, .int who), (3, .int ob), (4, .int (nI (k + 1)))]) ⟨rfl, rfl, rfl, rfl, rfl, trivial⟩ ?_
      rw [if_neg (fun e => by obtain ⟨e1, e2, e3⟩ := of_decide_eq_true e; first | exact c20 e1 | exact c31 e2 | exact c42 e3)] at h1 h2
      exact ih (k + 1) (by omega) h1 h2
    · skip
      refine xp_aload_n d_M_subscribe_23 rfl ?_
      refine xm_getR d_M_subscribe_24 fg_M_77 hz (by assumption) ?_
      refine xp_iload d_M_subscribe_27 rfl ?_
      refine xm_iaload d_M_subscribe_29 rfl (by decide) hz rfl (by omega) (by decide) ?_
      refine xp_iload_n d_M_subscribe_30 rfl ?_
      refine xp_icmp_ne (tgt := 45) d_M_subscribe_31 (by decide) (fun c31 => ?_) (fun c31 => ?_)
      · skip
        refine xp_inc1 d_M_subscribe_45 rfl (by decide) ?_
        refine xp_goto (tgt := 3) d_M_subscribe_48 (by decide) ?_
        refine xp_loc (lv' := [(0, .ref 68), (1, .int n), (2, .int who), (3, .int ob), (4, .int (nI (k + 1)))]) ⟨rfl, rfl, rfl, rfl, rfl, trivial⟩ ?_
        rw [if_neg (fun e => by obtain ⟨e1, e2, e3⟩ := of_decide_eq_true e; first | exact c20 e1 | exact c31 e2 | exact c42 e3)] at h1 h2
        exact ih (k + 1) (by omega) h1 h2
      · skip
        refine xp_aload_n d_M_subscribe_34 rfl ?_
        refine xm_getR d_M_subscribe_35 fg_M_80 hz (by assumption) ?_
        refine xp_iload d_M_subscribe_38 rfl ?_
        refine xm_iaload d_M_subscribe_40 rfl (by decide) hz rfl (by omega) (by decide) ?_
        refine xp_iload_n d_M_subscribe_41 rfl ?_
        refine xp_icmp_eq (tgt := 51) d_M_subscribe_42 (by decide) (fun c42 => ?_) (fun c42 => ?_)
        · skip
          refine xp_loc (lv' := [(0, .ref 68), (1, .int n), (2, .int who), (3, .int ob), (4, .int (nI k))]) ⟨rfl, rfl, rfl, rfl, rfl, trivial⟩ ?_
          exact h1 k (if_pos (decide_eq_true ⟨c20, c31, c42⟩))
        · skip
          refine xp_inc1 d_M_subscribe_45 rfl (by decide) ?_
          refine xp_goto (tgt := 3) d_M_subscribe_48 (by decide) ?_
          refine xp_loc (lv' := [(0, .ref 68), (1, .int n), (2, .int who), (3, .int ob), (4, .int (nI (k + 1)))]) ⟨rfl, rfl, rfl, rfl, rfl, trivial⟩ ?_
          rw [if_neg (fun e => by obtain ⟨e1, e2, e3⟩ := of_decide_eq_true e; first | exact c20 e1 | exact c31 e2 | exact c42 e3)] at h1 h2
          exact ih (k + 1) (by omega) h1 h2
set_option maxRecDepth 100000 in
set_option maxHeartbeats 1000000 in
theorem l_M_subscribe_105 (hm : x_mdl z P) {n who ob : Int32} {q : Nat} (hq : q < 18) (hp : post (some (.int 0)) (z, x_mg I (s_sn J q n ob), P)) : xp G M_M_subscribe 105 [(0, .ref 68), (1, .int n), (2, .int who), (3, .int ob), (4, .int (nI q))] [] (z, x_mg I J, P) 0 0 post := by
  obtain ⟨hz, m_powered, m_next, m_polled, m_count, m_tokens, m_input, m_setpoint, m_gainP, m_gainI, m_sum, m_level, m_taken, m_from, m_target, m_what, m_given, m_state, m_tries, m_got, m_error, m_reply, m_kept, m_whose, m_object, m_seen, m_due, m_notedNode, m_notedObject, m_notedValue, m_notices, m_bytes, m_length⟩ := id hm
  refine xp_aload_n d_M_subscribe_105 rfl ?_
  refine xm_getR d_M_subscribe_106 fg_M_83 hz (by assumption) ?_
  refine xp_iload d_M_subscribe_109 rfl ?_
  refine xp_aload_n d_M_subscribe_111 rfl ?_
  refine xp_iload_n d_M_subscribe_112 rfl ?_
  refine xp_iload_n d_M_subscribe_113 rfl ?_
  refine xq_V2r d_M_subscribe_114 g_M_subscribe_162 (x_mA hz) rfl rfl ?_
  refine c_M_value hm ?_
  refine ⟨_, rfl, ?_⟩
  refine xm_iastore d_M_subscribe_117 rfl (by decide) hz rfl (by omega) (by decide) ?_
  refine xp_aload_n d_M_subscribe_118 rfl ?_
  refine xm_getR d_M_subscribe_119 fg_M_86 hz (by assumption) ?_
  refine xp_iload d_M_subscribe_122 rfl ?_
  refine xp_iconst (v := 0) d_M_subscribe_124 (by decide) ?_
  refine xm_bastore d_M_subscribe_125 rfl (by decide) hz rfl (by omega) (by decide) (by first | exact Or.inl rfl | exact Or.inr rfl | assumption) ?_
  refine xp_iconst (v := 0) d_M_subscribe_126 (by decide) ?_
  refine xp_ireturn d_M_subscribe_127 rfl (x_bit (by first | exact Or.inl rfl | exact Or.inr rfl | assumption)).1 ?_
  exact hp
set_option maxRecDepth 100000 in
set_option maxHeartbeats 1000000 in
theorem c_M_subscribe (hm : x_mdl z P) {n who ob : Int32} {m : Nat} (em : J 68 22 = nI m) (hm6 : m ≤ 18) (hroom : ¬ s_sof J n m = 3 → m < 18) (hp : post (some (.int (s_sbV J n who ob m))) (z, x_mg I (s_sbJ J n who ob m), P)) : xp G M_M_subscribe 0 [(0, .ref 68), (1, .int n), (2, .int who), (3, .int ob)] [] (z, x_mg I J, P) 0 0 post := by
  obtain ⟨hz, m_powered, m_next, m_polled, m_count, m_tokens, m_input, m_setpoint, m_gainP, m_gainI, m_sum, m_level, m_taken, m_from, m_target, m_what, m_given, m_state, m_tries, m_got, m_error, m_reply, m_kept, m_whose, m_object, m_seen, m_due, m_notedNode, m_notedObject, m_notedValue, m_notices, m_bytes, m_length⟩ := id hm
  unfold s_sbV s_sbJ at hp
  refine xp_iconst (v := 0) d_M_subscribe_0 (by decide) ?_
  refine xp_istore d_M_subscribe_1 (by decide) ?_
  refine xp_loc (lv' := [(0, .ref 68), (1, .int n), (2, .int who), (3, .int ob), (4, .int (nI 0))]) ⟨rfl, rfl, rfl, rfl, rfl, trivial⟩ ?_
  refine l_M_subscribe_3 hm em hm6 m 0 rfl (fun k1 hk1 => ?_) (fun hk1 => ?_)
  · have hlt := k_srch_lt _ _ _ _ hk1
    have ed : s_sbO J n who ob m = some k1 := hk1
    simp only [ed] at hp
    refine xp_iload d_M_subscribe_51 rfl ?_
    refine xp_aload_n d_M_subscribe_53 rfl ?_
    refine xm_getI d_M_subscribe_54 fg_M_115 hz ?_
    refine xp_icmp_ne (tgt := 105) d_M_subscribe_57 (by decide) (fun c57 => ?_) (fun c57 => absurd c57 (show ¬ nI k1 = J 68 22 by rw [em]; exact fun e => by have := (nI_eq (by omega) (by omega)).mp e; omega))
    refine xp_loc (lv' := [(0, .ref 68), (1, .int n), (2, .int who), (3, .int ob), (4, .int (nI k1))]) ⟨rfl, rfl, rfl, rfl, rfl, trivial⟩ ?_
    exact l_M_subscribe_105 hm (by omega) hp
  · have ed : s_sbO J n who ob m = none := hk1
    simp only [ed] at hp
    refine xp_iload d_M_subscribe_51 rfl ?_
    refine xp_aload_n d_M_subscribe_53 rfl ?_
    refine xm_getI d_M_subscribe_54 fg_M_115 hz ?_
    refine xp_icmp_ne (tgt := 105) d_M_subscribe_57 (by decide) (fun c57 => absurd (show nI m = J 68 22 from em.symm) c57) (fun c57 => ?_)
    refine xp_aload_n d_M_subscribe_60 rfl ?_
    refine xp_iload_n d_M_subscribe_61 rfl ?_
    refine xq_V1r d_M_subscribe_62 g_M_subscribe_159 (x_mA hz) rfl rfl ?_
    refine c_M_subscriptionsOf hm em hm6 ?_
    refine ⟨_, rfl, ?_⟩
    refine xp_iconst (v := 3) d_M_subscribe_65 (by decide) ?_
    refine xp_icmp_ne (tgt := 71) d_M_subscribe_66 (by decide) (fun c66 => ?_) (fun c66 => ?_)
    · skip
      have hm5 := hroom c66
      refine xp_aload_n d_M_subscribe_71 rfl ?_
      refine xm_getR d_M_subscribe_72 fg_M_74 hz (by assumption) ?_
      refine xp_iload d_M_subscribe_75 rfl ?_
      refine xp_iload_n d_M_subscribe_77 rfl ?_
      refine xm_iastore d_M_subscribe_78 rfl (by decide) hz rfl (by omega) (by decide) ?_
      refine xp_aload_n d_M_subscribe_79 rfl ?_
      refine xm_getR d_M_subscribe_80 fg_M_77 hz (by assumption) ?_
      refine xp_iload d_M_subscribe_83 rfl ?_
      refine xp_iload_n d_M_subscribe_85 rfl ?_
      refine xm_iastore d_M_subscribe_86 rfl (by decide) hz rfl (by omega) (by decide) ?_
      refine xp_aload_n d_M_subscribe_87 rfl ?_
      refine xm_getR d_M_subscribe_88 fg_M_80 hz (by assumption) ?_
      refine xp_iload d_M_subscribe_91 rfl ?_
      refine xp_iload_n d_M_subscribe_93 rfl ?_
      refine xm_iastore d_M_subscribe_94 rfl (by decide) hz rfl (by omega) (by decide) ?_
      refine xp_aload_n d_M_subscribe_95 rfl ?_
      refine xp_dup d_M_subscribe_96 rfl ?_
      refine xm_getI d_M_subscribe_97 fg_M_115 hz ?_
      refine xp_iconst (v := 1) d_M_subscribe_100 (by decide) ?_
      refine xp_iadd d_M_subscribe_101 ?_
      refine xm_putI d_M_subscribe_102 f_M_115 hz ?_
      simp only [if_neg c66] at hp
      refine xp_loc (lv' := [(0, .ref 68), (1, .int n), (2, .int who), (3, .int ob), (4, .int (nI m))]) ⟨rfl, rfl, rfl, rfl, rfl, trivial⟩ ?_
      exact l_M_subscribe_105 hm (by omega) hp
    · skip
      refine xp_iconst (v := 1) d_M_subscribe_69 (by decide) ?_
      refine xp_ireturn d_M_subscribe_70 rfl (x_bit (by first | exact Or.inl rfl | exact Or.inr rfl | assumption)).1 ?_
      simp only [if_pos c66] at hp
      exact hp
def s_sv (w : Int32) : Int32 := w - w / 8 * 8
def s_ob (w : Int32) : Int32 := w / 8 - w / 8 / 8 * 8
def s_lv (w : Int32) : Int32 := w / 64
def s_one (o l : Int32) : Int32 := if o = 1 then (if l < 1 then 0 else if 16 < l then 0 else 1) else 0
def s_fin (J : xI) (r : Nat) (bad out : Int32) : xI := x_up (x_up (x_up J 87 r 1) 88 r bad) 89 r (if bad = 0 then out else 0)
def s_wk5 (J : xI) (r : Nat) (n sv ob : Int32) (m : Nat) : xI := if sv = 4 then (if 2 ≤ ob then s_fin J r 1 (J 84 r) else s_fin (s_sbJ J n (J 81 r) ob m) r (s_sbV J n (J 81 r) ob m) (J 84 r)) else s_fin J r 1 (J 84 r)
def s_wk4 (J : xI) (r : Nat) (n sv ob l : Int32) (m : Nat) : xI := if sv = 3 then (if s_one ob l = 0 then s_wk5 J r n sv ob m else s_fin (x_up J 80 (17 * k_tn n + k_tn l) 0) r 0 (J 84 r)) else s_wk5 J r n sv ob m
def s_wk3 (J : xI) (r : Nat) (n sv ob l : Int32) (m : Nat) : xI := if sv = 2 then (if ob = 2 then (if l = 0 then (if s_out (J 84 r) (-10000) 10000 = 0 then s_fin (x_up J 75 (k_tn n) (J 84 r)) r 0 (J 84 r) else s_wk4 J r n sv ob l m) else s_wk4 J r n sv ob l m) else s_wk4 J r n sv ob l m) else s_wk4 J r n sv ob l m
def s_wk2 (J : xI) (r : Nat) (n sv ob l : Int32) (m : Nat) : xI := if sv = 2 then (if s_one ob l = 0 then s_wk3 J r n sv ob l m else s_fin (x_up (x_up J 79 (17 * k_tn n + k_tn l) (J 84 r)) 80 (17 * k_tn n + k_tn l) 1) r 0 (J 84 r)) else s_wk3 J r n sv ob l m
def s_wk (J : xI) (r : Nat) (n sv ob l : Int32) (m : Nat) : xI := if sv = 1 then s_fin J r (if ob ≤ 2 then 0 else 1) (s_val J n ob) else s_wk2 J r n sv ob l m
def s_work (J : xI) (r m : Nat) : xI := s_wk J r (J 82 r) (s_sv (J 83 r)) (s_ob (J 83 r)) (s_lv (J 83 r)) m
theorem s_one_ix {o l : Int32} (h : ¬ s_one o l = 0) : ∃ k : Nat, 1 ≤ k ∧ k ≤ 16 ∧ l = nI k := by
  unfold s_one at h
  by_cases h1 : o = 1
  · rw [if_pos h1] at h
    by_cases h2 : l < 1
    · rw [if_pos h2] at h
      exact absurd rfl h
    · rw [if_neg h2] at h
      by_cases h3 : 16 < l
      · rw [if_pos h3] at h
        exact absurd rfl h
      · have h0 : ¬ l < 0 := by
          rw [Int32.lt_iff_toInt_lt] at h2 ⊢
          have e1 : (1 : Int32).toInt = 1 := by decide
          rw [e1] at h2
          rw [Int32.toInt_zero]
          omega
        obtain ⟨j, hj, rfl⟩ := nI_of h0
        exact ⟨j, Nat.le_of_not_lt (fun e => h2 (nI_lt (b := 1) e (by decide))), Nat.le_of_not_lt (fun e => h3 (nI_lt (a := 16) e hj)), rfl⟩
  · exact absurd (if_neg h1) h
set_option maxRecDepth 100000 in
set_option maxHeartbeats 1000000 in
theorem l_M_work_263 (hm : x_mdl z P) {r : Nat} {bad out : Int32} (hr : r < 60) (hbad : bad = 0 ∨ bad = 1) (hp : post none (z, x_mg I (s_fin J r bad out), P)) : xp G M_M_work 263 [(0, .ref 68), (1, .int (nI r)), (7, .int bad), (8, .int out)] [] (z, x_mg I J, P) 0 0 post := by
  obtain ⟨hz, m_powered, m_next, m_polled, m_count, m_tokens, m_input, m_setpoint, m_gainP, m_gainI, m_sum, m_level, m_taken, m_from, m_target, m_what, m_given, m_state, m_tries, m_got, m_error, m_reply, m_kept, m_whose, m_object, m_seen, m_due, m_notedNode, m_notedObject, m_notedValue, m_notices, m_bytes, m_length⟩ := id hm
  unfold s_fin at hp
  refine xp_aload_n d_M_work_263 rfl ?_
  refine xm_getR d_M_work_264 fg_M_65 hz (by assumption) ?_
  refine xp_iload_n d_M_work_267 rfl ?_
  refine xp_iconst (v := 1) d_M_work_268 (by decide) ?_
  refine xm_bastore d_M_work_269 rfl (by decide) hz rfl (by omega) (by decide) (by first | exact Or.inl rfl | exact Or.inr rfl | assumption) ?_
  refine xp_aload_n d_M_work_270 rfl ?_
  refine xm_getR d_M_work_271 fg_M_68 hz (by assumption) ?_
  refine xp_iload_n d_M_work_274 rfl ?_
  refine xp_iload d_M_work_275 rfl ?_
  refine xm_bastore d_M_work_277 rfl (by decide) hz rfl (by omega) (by decide) (by first | exact Or.inl rfl | exact Or.inr rfl | assumption) ?_
  refine xp_aload_n d_M_work_278 rfl ?_
  refine xm_getR d_M_work_279 fg_M_71 hz (by assumption) ?_
  refine xp_iload_n d_M_work_282 rfl ?_
  refine xp_iload d_M_work_283 rfl ?_
  refine xp_if_eq (tgt := 292) d_M_work_285 (by decide) (fun c285 => ?_) (fun c285 => ?_)
  · skip
    refine xp_iload d_M_work_292 rfl ?_
    refine xm_iastore d_M_work_294 rfl (by decide) hz rfl (by omega) (by decide) ?_
    refine xp_return_ d_M_work_295 rfl ?_
    simp only [if_pos c285] at hp
    exact hp
  · skip
    refine xp_iconst (v := 0) d_M_work_288 (by decide) ?_
    refine xp_goto (tgt := 294) d_M_work_289 (by decide) ?_
    refine xm_iastore d_M_work_294 rfl (by decide) hz rfl (by omega) (by decide) ?_
    refine xp_return_ d_M_work_295 rfl ?_
    simp only [if_neg c285] at hp
    exact hp
set_option maxRecDepth 100000 in
set_option maxHeartbeats 1000000 in
theorem l_M_work_237 (hm : x_mdl z P) {r t : Nat} {sv ob l : Int32} {m : Nat} (hr : r < 60) (ht : t < 6) (em : J 68 22 = nI m) (hm6 : m ≤ 18) (hroom : ¬ s_sof J (nI t) m = 3 → m < 18) (hp : post none (z, x_mg I (s_wk5 J r (nI t) sv ob m), P)) : xp G M_M_work 237 [(0, .ref 68), (1, .int (nI r)), (2, .int (nI t)), (3, .int sv), (4, .int ob), (5, .int l), (6, .int (s_one ob l)), (7, .int 1), (8, .int (J 84 r))] [] (z, x_mg I J, P) 0 0 post := by
  obtain ⟨hz, m_powered, m_next, m_polled, m_count, m_tokens, m_input, m_setpoint, m_gainP, m_gainI, m_sum, m_level, m_taken, m_from, m_target, m_what, m_given, m_state, m_tries, m_got, m_error, m_reply, m_kept, m_whose, m_object, m_seen, m_due, m_notedNode, m_notedObject, m_notedValue, m_notices, m_bytes, m_length⟩ := id hm
  unfold s_wk5 at hp
  refine xp_iload_n d_M_work_237 rfl ?_
  refine xp_iconst (v := 4) d_M_work_238 (by decide) ?_
  refine xp_icmp_ne (tgt := 263) d_M_work_239 (by decide) (fun c239 => ?_) (fun c239 => ?_)
  · skip
    first
      | (simp only [if_neg c239] at hp
         refine xp_loc (lv' := [(0, .ref 68), (1, .int (nI r)), (7, .int 1), (8, .int (J 84 r))]) ⟨rfl, rfl, rfl, rfl, trivial⟩ ?_
         exact l_M_work_263 hm hr (Or.inr rfl) hp)
      | (simp only [if_pos c239, if_pos c245] at hp
         refine xp_loc (lv' := [(0, .ref 68), (1, .int (nI r)), (7, .int 1), (8, .int (J 84 r))]) ⟨rfl, rfl, rfl, rfl, trivial⟩ ?_
         exact l_M_work_263 hm hr (Or.inr rfl) hp)
      | (simp only [if_pos c239, if_neg c245] at hp
         refine xp_loc (lv' := [(0, .ref 68), (1, .int (nI r)), (7, .int (s_sbV J (nI t) (J 81 r) ob m)), (8, .int (J 84 r))]) ⟨rfl, rfl, rfl, rfl, trivial⟩ ?_
         exact l_M_work_263 hm hr (s_sbV_01 _ _ _ _ _) hp)
  · skip
    refine xp_iload d_M_work_242 rfl ?_
    refine xp_iconst (v := 2) d_M_work_244 (by decide) ?_
    refine xp_icmp_ge (tgt := 263) d_M_work_245 (by decide) (fun c245 => ?_) (fun c245 => ?_)
    · skip
      first
        | (simp only [if_neg c239] at hp
           refine xp_loc (lv' := [(0, .ref 68), (1, .int (nI r)), (7, .int 1), (8, .int (J 84 r))]) ⟨rfl, rfl, rfl, rfl, trivial⟩ ?_
           exact l_M_work_263 hm hr (Or.inr rfl) hp)
        | (simp only [if_pos c239, if_pos c245] at hp
           refine xp_loc (lv' := [(0, .ref 68), (1, .int (nI r)), (7, .int 1), (8, .int (J 84 r))]) ⟨rfl, rfl, rfl, rfl, trivial⟩ ?_
           exact l_M_work_263 hm hr (Or.inr rfl) hp)
        | (simp only [if_pos c239, if_neg c245] at hp
           refine xp_loc (lv' := [(0, .ref 68), (1, .int (nI r)), (7, .int (s_sbV J (nI t) (J 81 r) ob m)), (8, .int (J 84 r))]) ⟨rfl, rfl, rfl, rfl, trivial⟩ ?_
           exact l_M_work_263 hm hr (s_sbV_01 _ _ _ _ _) hp)
    · skip
      refine xp_aload_n d_M_work_248 rfl ?_
      refine xp_iload_n d_M_work_249 rfl ?_
      refine xp_aload_n d_M_work_250 rfl ?_
      refine xm_getR d_M_work_251 fg_M_47 hz (by assumption) ?_
      refine xp_iload_n d_M_work_254 rfl ?_
      refine xm_iaload d_M_work_255 rfl (by decide) hz rfl (by omega) (by decide) ?_
      refine xp_iload d_M_work_256 rfl ?_
      refine xq_V3r d_M_work_258 g_M_work_166 (x_mA hz) rfl rfl ?_
      refine c_M_subscribe hm em hm6 hroom ?_
      refine ⟨_, rfl, ?_⟩
      refine xp_istore d_M_work_261 (by decide) ?_
      first
        | (simp only [if_neg c239] at hp
           refine xp_loc (lv' := [(0, .ref 68), (1, .int (nI r)), (7, .int 1), (8, .int (J 84 r))]) ⟨rfl, rfl, rfl, rfl, trivial⟩ ?_
           exact l_M_work_263 hm hr (Or.inr rfl) hp)
        | (simp only [if_pos c239, if_pos c245] at hp
           refine xp_loc (lv' := [(0, .ref 68), (1, .int (nI r)), (7, .int 1), (8, .int (J 84 r))]) ⟨rfl, rfl, rfl, rfl, trivial⟩ ?_
           exact l_M_work_263 hm hr (Or.inr rfl) hp)
        | (simp only [if_pos c239, if_neg c245] at hp
           refine xp_loc (lv' := [(0, .ref 68), (1, .int (nI r)), (7, .int (s_sbV J (nI t) (J 81 r) ob m)), (8, .int (J 84 r))]) ⟨rfl, rfl, rfl, rfl, trivial⟩ ?_
           exact l_M_work_263 hm hr (s_sbV_01 _ _ _ _ _) hp)
set_option maxRecDepth 100000 in
set_option maxHeartbeats 1000000 in
theorem l_M_work_208 (hm : x_mdl z P) {r t : Nat} {sv ob l : Int32} {m : Nat} (hr : r < 60) (ht : t < 6) (em : J 68 22 = nI m) (hm6 : m ≤ 18) (hroom : ¬ s_sof J (nI t) m = 3 → m < 18) (hp : post none (z, x_mg I (s_wk4 J r (nI t) sv ob l m), P)) : xp G M_M_work 208 [(0, .ref 68), (1, .int (nI r)), (2, .int (nI t)), (3, .int sv), (4, .int ob), (5, .int l), (6, .int (s_one ob l)), (7, .int 1), (8, .int (J 84 r))] [] (z, x_mg I J, P) 0 0 post := by
  obtain ⟨hz, m_powered, m_next, m_polled, m_count, m_tokens, m_input, m_setpoint, m_gainP, m_gainI, m_sum, m_level, m_taken, m_from, m_target, m_what, m_given, m_state, m_tries, m_got, m_error, m_reply, m_kept, m_whose, m_object, m_seen, m_due, m_notedNode, m_notedObject, m_notedValue, m_notices, m_bytes, m_length⟩ := id hm
  unfold s_wk4 at hp
  simp only [k_tn_nI (show t < 1000 by omega)] at hp
  refine xp_iload_n d_M_work_208 rfl ?_
  refine xp_iconst (v := 3) d_M_work_209 (by decide) ?_
  refine xp_icmp_ne (tgt := 237) d_M_work_210 (by decide) (fun c210 => ?_) (fun c210 => ?_)
  · skip
    simp only [if_neg c210] at hp
    refine xp_loc (lv' := [(0, .ref 68), (1, .int (nI r)), (2, .int (nI t)), (3, .int sv), (4, .int ob), (5, .int l), (6, .int (s_one ob l)), (7, .int 1), (8, .int (J 84 r))]) ⟨rfl, rfl, rfl, rfl, rfl, rfl, rfl, rfl, rfl, trivial⟩ ?_
    exact l_M_work_237 hm hr ht em hm6 hroom hp
  · skip
    refine xp_iload d_M_work_213 rfl ?_
    refine xp_if_eq (tgt := 237) d_M_work_215 (by decide) (fun c215 => ?_) (fun c215 => ?_)
    · skip
      simp only [if_pos c210, if_pos c215] at hp
      refine xp_loc (lv' := [(0, .ref 68), (1, .int (nI r)), (2, .int (nI t)), (3, .int sv), (4, .int ob), (5, .int l), (6, .int (s_one ob l)), (7, .int 1), (8, .int (J 84 r))]) ⟨rfl, rfl, rfl, rfl, rfl, rfl, rfl, rfl, rfl, trivial⟩ ?_
      exact l_M_work_237 hm hr ht em hm6 hroom hp
    · skip
      obtain ⟨k, hk1, hk2, rfl⟩ := s_one_ix c215
      simp only [k_tn_nI (show k < 1000 by omega)] at hp
      refine xp_iconst (v := 0) d_M_work_218 (by decide) ?_
      refine xp_istore d_M_work_219 (by decide) ?_
      refine xp_aload_n d_M_work_221 rfl ?_
      refine xm_getR d_M_work_222 fg_M_44 hz (by assumption) ?_
      refine xp_bipush (v := 17) d_M_work_225 (by decide) ?_
      refine xp_iload_n d_M_work_227 rfl ?_
      refine xp_imul d_M_work_228 ?_
      refine xp_iload d_M_work_229 rfl ?_
      refine xp_iadd d_M_work_231 ?_
      refine xp_iconst (v := 0) d_M_work_232 (by decide) ?_
      refine xm_bastore d_M_work_233 rfl (by decide) hz (x_mulA 17 t k) (by omega) (by decide) (by first | exact Or.inl rfl | exact Or.inr rfl | assumption) ?_
      refine xp_goto (tgt := 263) d_M_work_234 (by decide) ?_
      simp only [if_pos c210, if_neg c215] at hp
      refine xp_loc (lv' := [(0, .ref 68), (1, .int (nI r)), (7, .int 0), (8, .int (J 84 r))]) ⟨rfl, rfl, rfl, rfl, trivial⟩ ?_
      exact l_M_work_263 hm hr (by first | exact Or.inl rfl | exact Or.inr rfl | exact s_sbV_01 _ _ _ _ _) hp
set_option maxRecDepth 100000 in
set_option maxHeartbeats 1000000 in
theorem l_M_work_156 (hm : x_mdl z P) {r t : Nat} {sv ob l : Int32} {m : Nat} (hr : r < 60) (ht : t < 6) (em : J 68 22 = nI m) (hm6 : m ≤ 18) (hroom : ¬ s_sof J (nI t) m = 3 → m < 18) (hp : post none (z, x_mg I (s_wk3 J r (nI t) sv ob l m), P)) : xp G M_M_work 156 [(0, .ref 68), (1, .int (nI r)), (2, .int (nI t)), (3, .int sv), (4, .int ob), (5, .int l), (6, .int (s_one ob l)), (7, .int 1), (8, .int (J 84 r))] [] (z, x_mg I J, P) 0 0 post := by
  obtain ⟨hz, m_powered, m_next, m_polled, m_count, m_tokens, m_input, m_setpoint, m_gainP, m_gainI, m_sum, m_level, m_taken, m_from, m_target, m_what, m_given, m_state, m_tries, m_got, m_error, m_reply, m_kept, m_whose, m_object, m_seen, m_due, m_notedNode, m_notedObject, m_notedValue, m_notices, m_bytes, m_length⟩ := id hm
  unfold s_wk3 at hp
  simp only [k_tn_nI (show t < 1000 by omega)] at hp
  refine xp_iload_n d_M_work_156 rfl ?_
  refine xp_iconst (v := 2) d_M_work_157 (by decide) ?_
  refine xp_icmp_ne (tgt := 208) d_M_work_158 (by decide) (fun c158 => ?_) (fun c158 => ?_)
  · skip
    simp only [if_neg c158] at hp
    refine xp_loc (lv' := [(0, .ref 68), (1, .int (nI r)), (2, .int (nI t)), (3, .int sv), (4, .int ob), (5, .int l), (6, .int (s_one ob l)), (7, .int 1), (8, .int (J 84 r))]) ⟨rfl, rfl, rfl, rfl, rfl, rfl, rfl, rfl, rfl, trivial⟩ ?_
    exact l_M_work_208 hm hr ht em hm6 hroom hp
  · skip
    refine xp_iload d_M_work_161 rfl ?_
    refine xp_iconst (v := 2) d_M_work_163 (by decide) ?_
    refine xp_icmp_ne (tgt := 208) d_M_work_164 (by decide) (fun c164 => ?_) (fun c164 => ?_)
    · skip
      simp only [if_pos c158, if_neg c164] at hp
      refine xp_loc (lv' := [(0, .ref 68), (1, .int (nI r)), (2, .int (nI t)), (3, .int sv), (4, .int ob), (5, .int l), (6, .int (s_one ob l)), (7, .int 1), (8, .int (J 84 r))]) ⟨rfl, rfl, rfl, rfl, rfl, rfl, rfl, rfl, rfl, trivial⟩ ?_
      exact l_M_work_208 hm hr ht em hm6 hroom hp
    · skip
      refine xp_iload d_M_work_167 rfl ?_
      refine xp_if_ne (tgt := 208) d_M_work_169 (by decide) (fun c169 => ?_) (fun c169 => ?_)
      · skip
        simp only [if_pos c158, if_pos c164, if_neg c169] at hp
        refine xp_loc (lv' := [(0, .ref 68), (1, .int (nI r)), (2, .int (nI t)), (3, .int sv), (4, .int ob), (5, .int l), (6, .int (s_one ob l)), (7, .int 1), (8, .int (J 84 r))]) ⟨rfl, rfl, rfl, rfl, rfl, rfl, rfl, rfl, rfl, trivial⟩ ?_
        exact l_M_work_208 hm hr ht em hm6 hroom hp
      · skip
        refine xp_aload_n d_M_work_172 rfl ?_
        refine xm_getR d_M_work_173 fg_M_56 hz (by assumption) ?_
        refine xp_iload_n d_M_work_176 rfl ?_
        refine xm_iaload d_M_work_177 rfl (by decide) hz rfl (by omega) (by decide) ?_
        refine xp_sipush (v := -10000) d_M_work_178 (by decide) ?_
        refine xp_sipush (v := 10000) d_M_work_181 (by decide) ?_
        refine xq_S3r d_M_work_184 g_M_work_121 rfl rfl ?_
        refine c_M_outside ?_
        refine ⟨_, rfl, ?_⟩
        refine xp_if_ne (tgt := 208) d_M_work_187 (by decide) (fun c187 => ?_) (fun c187 => ?_)
        · skip
          simp only [if_pos c158, if_pos c164, if_pos c169, if_neg c187] at hp
          refine xp_loc (lv' := [(0, .ref 68), (1, .int (nI r)), (2, .int (nI t)), (3, .int sv), (4, .int ob), (5, .int l), (6, .int (s_one ob l)), (7, .int 1), (8, .int (J 84 r))]) ⟨rfl, rfl, rfl, rfl, rfl, rfl, rfl, rfl, rfl, trivial⟩ ?_
          exact l_M_work_208 hm hr ht em hm6 hroom hp
        · skip
          refine xp_iconst (v := 0) d_M_work_190 (by decide) ?_
          refine xp_istore d_M_work_191 (by decide) ?_
          refine xp_aload_n d_M_work_193 rfl ?_
          refine xm_getR d_M_work_194 fg_M_29 hz (by assumption) ?_
          refine xp_iload_n d_M_work_197 rfl ?_
          refine xp_aload_n d_M_work_198 rfl ?_
          refine xm_getR d_M_work_199 fg_M_56 hz (by assumption) ?_
          refine xp_iload_n d_M_work_202 rfl ?_
          refine xm_iaload d_M_work_203 rfl (by decide) hz rfl (by omega) (by decide) ?_
          refine xm_iastore d_M_work_204 rfl (by decide) hz rfl (by omega) (by decide) ?_
          refine xp_goto (tgt := 263) d_M_work_205 (by decide) ?_
          simp only [if_pos c158, if_pos c164, if_pos c169, if_pos c187] at hp
          refine xp_loc (lv' := [(0, .ref 68), (1, .int (nI r)), (7, .int 0), (8, .int (J 84 r))]) ⟨rfl, rfl, rfl, rfl, trivial⟩ ?_
          exact l_M_work_263 hm hr (by first | exact Or.inl rfl | exact Or.inr rfl | exact s_sbV_01 _ _ _ _ _) hp
set_option maxRecDepth 100000 in
set_option maxHeartbeats 1000000 in
theorem l_M_work_109 (hm : x_mdl z P) {r t : Nat} {sv ob l : Int32} {m : Nat} (hr : r < 60) (ht : t < 6) (em : J 68 22 = nI m) (hm6 : m ≤ 18) (hroom : ¬ s_sof J (nI t) m = 3 → m < 18) (hp : post none (z, x_mg I (s_wk2 J r (nI t) sv ob l m), P)) : xp G M_M_work 109 [(0, .ref 68), (1, .int (nI r)), (2, .int (nI t)), (3, .int sv), (4, .int ob), (5, .int l), (6, .int (s_one ob l)), (7, .int 1), (8, .int (J 84 r))] [] (z, x_mg I J, P) 0 0 post := by
  obtain ⟨hz, m_powered, m_next, m_polled, m_count, m_tokens, m_input, m_setpoint, m_gainP, m_gainI, m_sum, m_level, m_taken, m_from, m_target, m_what, m_given, m_state, m_tries, m_got, m_error, m_reply, m_kept, m_whose, m_object, m_seen, m_due, m_notedNode, m_notedObject, m_notedValue, m_notices, m_bytes, m_length⟩ := id hm
  unfold s_wk2 at hp
  simp only [k_tn_nI (show t < 1000 by omega)] at hp
  refine xp_iload_n d_M_work_109 rfl ?_
  refine xp_iconst (v := 2) d_M_work_110 (by decide) ?_
  refine xp_icmp_ne (tgt := 156) d_M_work_111 (by decide) (fun c111 => ?_) (fun c111 => ?_)
  · skip
    simp only [if_neg c111] at hp
    refine xp_loc (lv' := [(0, .ref 68), (1, .int (nI r)), (2, .int (nI t)), (3, .int sv), (4, .int ob), (5, .int l), (6, .int (s_one ob l)), (7, .int 1), (8, .int (J 84 r))]) ⟨rfl, rfl, rfl, rfl, rfl, rfl, rfl, rfl, rfl, trivial⟩ ?_
    exact l_M_work_156 hm hr ht em hm6 hroom hp
  · skip
    refine xp_iload d_M_work_114 rfl ?_
    refine xp_if_eq (tgt := 156) d_M_work_116 (by decide) (fun c116 => ?_) (fun c116 => ?_)
    · skip
      simp only [if_pos c111, if_pos c116] at hp
      refine xp_loc (lv' := [(0, .ref 68), (1, .int (nI r)), (2, .int (nI t)), (3, .int sv), (4, .int ob), (5, .int l), (6, .int (s_one ob l)), (7, .int 1), (8, .int (J 84 r))]) ⟨rfl, rfl, rfl, rfl, rfl, rfl, rfl, rfl, rfl, trivial⟩ ?_
      exact l_M_work_156 hm hr ht em hm6 hroom hp
    · skip
      obtain ⟨k, hk1, hk2, rfl⟩ := s_one_ix c116
      simp only [k_tn_nI (show k < 1000 by omega)] at hp
      refine xp_iconst (v := 0) d_M_work_119 (by decide) ?_
      refine xp_istore d_M_work_120 (by decide) ?_
      refine xp_aload_n d_M_work_122 rfl ?_
      refine xm_getR d_M_work_123 fg_M_41 hz (by assumption) ?_
      refine xp_bipush (v := 17) d_M_work_126 (by decide) ?_
      refine xp_iload_n d_M_work_128 rfl ?_
      refine xp_imul d_M_work_129 ?_
      refine xp_iload d_M_work_130 rfl ?_
      refine xp_iadd d_M_work_132 ?_
      refine xp_aload_n d_M_work_133 rfl ?_
      refine xm_getR d_M_work_134 fg_M_56 hz (by assumption) ?_
      refine xp_iload_n d_M_work_137 rfl ?_
      refine xm_iaload d_M_work_138 rfl (by decide) hz rfl (by omega) (by decide) ?_
      refine xm_iastore d_M_work_139 rfl (by decide) hz (x_mulA 17 t k) (by omega) (by decide) ?_
      refine xp_aload_n d_M_work_140 rfl ?_
      refine xm_getR d_M_work_141 fg_M_44 hz (by assumption) ?_
      refine xp_bipush (v := 17) d_M_work_144 (by decide) ?_
      refine xp_iload_n d_M_work_146 rfl ?_
      refine xp_imul d_M_work_147 ?_
      refine xp_iload d_M_work_148 rfl ?_
      refine xp_iadd d_M_work_150 ?_
      refine xp_iconst (v := 1) d_M_work_151 (by decide) ?_
      refine xm_bastore d_M_work_152 rfl (by decide) hz (x_mulA 17 t k) (by omega) (by decide) (by first | exact Or.inl rfl | exact Or.inr rfl | assumption) ?_
      refine xp_goto (tgt := 263) d_M_work_153 (by decide) ?_
      simp only [if_pos c111, if_neg c116] at hp
      refine xp_loc (lv' := [(0, .ref 68), (1, .int (nI r)), (7, .int 0), (8, .int (J 84 r))]) ⟨rfl, rfl, rfl, rfl, trivial⟩ ?_
      exact l_M_work_263 hm hr (by first | exact Or.inl rfl | exact Or.inr rfl | exact s_sbV_01 _ _ _ _ _) hp
set_option maxRecDepth 100000 in
set_option maxHeartbeats 1000000 in
theorem l_M_work_79 (hm : x_mdl z P) {r t : Nat} {sv ob l : Int32} {m : Nat} (hr : r < 60) (ht : t < 6) (em : J 68 22 = nI m) (hm6 : m ≤ 18) (hroom : ¬ s_sof J (nI t) m = 3 → m < 18) (hp : post none (z, x_mg I (s_wk J r (nI t) sv ob l m), P)) : xp G M_M_work 79 [(0, .ref 68), (1, .int (nI r)), (2, .int (nI t)), (3, .int sv), (4, .int ob), (5, .int l), (6, .int (s_one ob l)), (7, .int 1), (8, .int (J 84 r))] [] (z, x_mg I J, P) 0 0 post := by
  obtain ⟨hz, m_powered, m_next, m_polled, m_count, m_tokens, m_input, m_setpoint, m_gainP, m_gainI, m_sum, m_level, m_taken, m_from, m_target, m_what, m_given, m_state, m_tries, m_got, m_error, m_reply, m_kept, m_whose, m_object, m_seen, m_due, m_notedNode, m_notedObject, m_notedValue, m_notices, m_bytes, m_length⟩ := id hm
  unfold s_wk at hp
  refine xp_iload_n d_M_work_79 rfl ?_
  refine xp_iconst (v := 1) d_M_work_80 (by decide) ?_
  refine xp_icmp_ne (tgt := 109) d_M_work_81 (by decide) (fun c81 => ?_) (fun c81 => ?_)
  · skip
    simp only [if_neg c81] at hp
    refine xp_loc (lv' := [(0, .ref 68), (1, .int (nI r)), (2, .int (nI t)), (3, .int sv), (4, .int ob), (5, .int l), (6, .int (s_one ob l)), (7, .int 1), (8, .int (J 84 r))]) ⟨rfl, rfl, rfl, rfl, rfl, rfl, rfl, rfl, rfl, trivial⟩ ?_
    exact l_M_work_109 hm hr ht em hm6 hroom hp
  · skip
    refine xp_iload d_M_work_84 rfl ?_
    refine xp_iconst (v := 2) d_M_work_86 (by decide) ?_
    refine xp_icmp_le (tgt := 94) d_M_work_87 (by decide) (fun c87 => ?_) (fun c87 => ?_)
    · skip
      refine xp_iconst (v := 0) d_M_work_94 (by decide) ?_
      refine xp_istore d_M_work_95 (by decide) ?_
      refine xp_aload_n d_M_work_97 rfl ?_
      refine xp_iload_n d_M_work_98 rfl ?_
      refine xp_iload d_M_work_99 rfl ?_
      refine xq_V2r d_M_work_101 g_M_work_162 (x_mA hz) rfl rfl ?_
      refine c_M_value hm ?_
      refine ⟨_, rfl, ?_⟩
      refine xp_istore d_M_work_104 (by decide) ?_
      refine xp_goto (tgt := 263) d_M_work_106 (by decide) ?_
      simp only [if_pos c81, if_pos c87] at hp
      first
        | (refine xp_loc (lv' := [(0, .ref 68), (1, .int (nI r)), (7, .int 0), (8, .int (s_val J (nI t) ob))]) ⟨rfl, rfl, rfl, rfl, trivial⟩ ?_
           exact l_M_work_263 hm hr (Or.inl rfl) hp)
        | (refine xp_loc (lv' := [(0, .ref 68), (1, .int (nI r)), (7, .int 1), (8, .int (s_val J (nI t) ob))]) ⟨rfl, rfl, rfl, rfl, trivial⟩ ?_
           exact l_M_work_263 hm hr (Or.inr rfl) hp)
    · skip
      refine xp_iconst (v := 1) d_M_work_90 (by decide) ?_
      refine xp_goto (tgt := 95) d_M_work_91 (by decide) ?_
      refine xp_istore d_M_work_95 (by decide) ?_
      refine xp_aload_n d_M_work_97 rfl ?_
      refine xp_iload_n d_M_work_98 rfl ?_
      refine xp_iload d_M_work_99 rfl ?_
      refine xq_V2r d_M_work_101 g_M_work_162 (x_mA hz) rfl rfl ?_
      refine c_M_value hm ?_
      refine ⟨_, rfl, ?_⟩
      refine xp_istore d_M_work_104 (by decide) ?_
      refine xp_goto (tgt := 263) d_M_work_106 (by decide) ?_
      simp only [if_pos c81, if_neg c87] at hp
      first
        | (refine xp_loc (lv' := [(0, .ref 68), (1, .int (nI r)), (7, .int 0), (8, .int (s_val J (nI t) ob))]) ⟨rfl, rfl, rfl, rfl, trivial⟩ ?_
           exact l_M_work_263 hm hr (Or.inl rfl) hp)
        | (refine xp_loc (lv' := [(0, .ref 68), (1, .int (nI r)), (7, .int 1), (8, .int (s_val J (nI t) ob))]) ⟨rfl, rfl, rfl, rfl, trivial⟩ ?_
           exact l_M_work_263 hm hr (Or.inr rfl) hp)
set_option maxRecDepth 100000 in
set_option maxHeartbeats 1000000 in
theorem c_M_work (hm : x_mdl z P) {r t m : Nat} (hr : r < 60) (ht : t < 6) (et : J 82 r = nI t) (em : J 68 22 = nI m) (hm6 : m ≤ 18) (hroom : ¬ s_sof J (nI t) m = 3 → m < 18) (hp : post none (z, x_mg I (s_work J r m), P)) : xp G M_M_work 0 [(0, .ref 68), (1, .int (nI r))] [] (z, x_mg I J, P) 0 0 post := by
  obtain ⟨hz, m_powered, m_next, m_polled, m_count, m_tokens, m_input, m_setpoint, m_gainP, m_gainI, m_sum, m_level, m_taken, m_from, m_target, m_what, m_given, m_state, m_tries, m_got, m_error, m_reply, m_kept, m_whose, m_object, m_seen, m_due, m_notedNode, m_notedObject, m_notedValue, m_notices, m_bytes, m_length⟩ := id hm
  unfold s_work at hp
  rw [et] at hp
  refine xp_aload_n d_M_work_0 rfl ?_
  refine xm_getR d_M_work_1 fg_M_50 hz (by assumption) ?_
  refine xp_iload_n d_M_work_4 rfl ?_
  refine xm_iaload d_M_work_5 rfl (by decide) hz rfl (by omega) (by decide) ?_
  refine xp_istore_n d_M_work_6 (by decide) ?_
  refine xp_aload_n d_M_work_7 rfl ?_
  refine xm_getR d_M_work_8 fg_M_53 hz (by assumption) ?_
  refine xp_iload_n d_M_work_11 rfl ?_
  refine xm_iaload d_M_work_12 rfl (by decide) hz rfl (by omega) (by decide) ?_
  refine xp_bipush (v := 8) d_M_work_13 (by decide) ?_
  refine xp_irem d_M_work_15 (by decide) ?_
  refine xp_istore_n d_M_work_16 (by decide) ?_
  refine xp_aload_n d_M_work_17 rfl ?_
  refine xm_getR d_M_work_18 fg_M_53 hz (by assumption) ?_
  refine xp_iload_n d_M_work_21 rfl ?_
  refine xm_iaload d_M_work_22 rfl (by decide) hz rfl (by omega) (by decide) ?_
  refine xp_bipush (v := 8) d_M_work_23 (by decide) ?_
  refine xp_idiv d_M_work_25 (by decide) ?_
  refine xp_bipush (v := 8) d_M_work_26 (by decide) ?_
  refine xp_irem d_M_work_28 (by decide) ?_
  refine xp_istore d_M_work_29 (by decide) ?_
  refine xp_aload_n d_M_work_31 rfl ?_
  refine xm_getR d_M_work_32 fg_M_53 hz (by assumption) ?_
  refine xp_iload_n d_M_work_35 rfl ?_
  refine xm_iaload d_M_work_36 rfl (by decide) hz rfl (by omega) (by decide) ?_
  refine xp_bipush (v := 64) d_M_work_37 (by decide) ?_
  refine xp_idiv d_M_work_39 (by decide) ?_
  refine xp_istore d_M_work_40 (by decide) ?_
  refine xp_iload d_M_work_42 rfl ?_
  refine xp_iconst (v := 1) d_M_work_44 (by decide) ?_
  refine xp_icmp_ne (tgt := 65) d_M_work_45 (by decide) (fun c45 => ?_) (fun c45 => ?_)
  · skip
    refine xp_iconst (v := 0) d_M_work_65 (by decide) ?_
    refine xp_istore d_M_work_66 (by decide) ?_
    refine xp_iconst (v := 1) d_M_work_68 (by decide) ?_
    refine xp_istore d_M_work_69 (by decide) ?_
    refine xp_aload_n d_M_work_71 rfl ?_
    refine xm_getR d_M_work_72 fg_M_56 hz (by assumption) ?_
    refine xp_iload_n d_M_work_75 rfl ?_
    refine xm_iaload d_M_work_76 rfl (by decide) hz rfl (by omega) (by decide) ?_
    refine xp_istore d_M_work_77 (by decide) ?_
    refine xp_loc (lv' := [(0, .ref 68), (1, .int (nI r)), (2, .int (nI t)), (3, .int (s_sv (J 83 r))), (4, .int (s_ob (J 83 r))), (5, .int (s_lv (J 83 r))), (6, .int (s_one (s_ob (J 83 r)) (s_lv (J 83 r)))), (7, .int 1), (8, .int (J 84 r))]) ⟨rfl, rfl, ?_, rfl, rfl, rfl, ?_, rfl, rfl, trivial⟩ ?_
    · show some (Value.int (J 82 r)) = _
      rw [et]
    · have e1 : s_one (s_ob (J 83 r)) (s_lv (J 83 r)) = 0 := by
        unfold s_one s_ob s_lv
        simp only [if_neg c45]
      rw [e1]
      rfl
    · exact l_M_work_79 hm hr ht em hm6 hroom hp
  · skip
    refine xp_iload d_M_work_48 rfl ?_
    refine xp_iconst (v := 1) d_M_work_50 (by decide) ?_
    refine xp_icmp_lt (tgt := 65) d_M_work_51 (by decide) (fun c51 => ?_) (fun c51 => ?_)
    · skip
      refine xp_iconst (v := 0) d_M_work_65 (by decide) ?_
      refine xp_istore d_M_work_66 (by decide) ?_
      refine xp_iconst (v := 1) d_M_work_68 (by decide) ?_
      refine xp_istore d_M_work_69 (by decide) ?_
      refine xp_aload_n d_M_work_71 rfl ?_
      refine xm_getR d_M_work_72 fg_M_56 hz (by assumption) ?_
      refine xp_iload_n d_M_work_75 rfl ?_
      refine xm_iaload d_M_work_76 rfl (by decide) hz rfl (by omega) (by decide) ?_
      refine xp_istore d_M_work_77 (by decide) ?_
      refine xp_loc (lv' := [(0, .ref 68), (1, .int (nI r)), (2, .int (nI t)), (3, .int (s_sv (J 83 r))), (4, .int (s_ob (J 83 r))), (5, .int (s_lv (J 83 r))), (6, .int (s_one (s_ob (J 83 r)) (s_lv (J 83 r)))), (7, .int 1), (8, .int (J 84 r))]) ⟨rfl, rfl, ?_, rfl, rfl, rfl, ?_, rfl, rfl, trivial⟩ ?_
      · show some (Value.int (J 82 r)) = _
        rw [et]
      · have e1 : s_one (s_ob (J 83 r)) (s_lv (J 83 r)) = 0 := by
          unfold s_one s_ob s_lv
          simp only [if_pos c45, if_pos c51]
        rw [e1]
        rfl
      · exact l_M_work_79 hm hr ht em hm6 hroom hp
    · skip
      refine xp_iload d_M_work_54 rfl ?_
      refine xp_bipush (v := 16) d_M_work_56 (by decide) ?_
      refine xp_icmp_gt (tgt := 65) d_M_work_58 (by decide) (fun c58 => ?_) (fun c58 => ?_)
      · skip
        refine xp_iconst (v := 0) d_M_work_65 (by decide) ?_
        refine xp_istore d_M_work_66 (by decide) ?_
        refine xp_iconst (v := 1) d_M_work_68 (by decide) ?_
        refine xp_istore d_M_work_69 (by decide) ?_
        refine xp_aload_n d_M_work_71 rfl ?_
        refine xm_getR d_M_work_72 fg_M_56 hz (by assumption) ?_
        refine xp_iload_n d_M_work_75 rfl ?_
        refine xm_iaload d_M_work_76 rfl (by decide) hz rfl (by omega) (by decide) ?_
        refine xp_istore d_M_work_77 (by decide) ?_
        refine xp_loc (lv' := [(0, .ref 68), (1, .int (nI r)), (2, .int (nI t)), (3, .int (s_sv (J 83 r))), (4, .int (s_ob (J 83 r))), (5, .int (s_lv (J 83 r))), (6, .int (s_one (s_ob (J 83 r)) (s_lv (J 83 r)))), (7, .int 1), (8, .int (J 84 r))]) ⟨rfl, rfl, ?_, rfl, rfl, rfl, ?_, rfl, rfl, trivial⟩ ?_
        · show some (Value.int (J 82 r)) = _
          rw [et]
        · have e1 : s_one (s_ob (J 83 r)) (s_lv (J 83 r)) = 0 := by
            unfold s_one s_ob s_lv
            simp only [if_pos c45, if_neg c51, if_pos c58]
          rw [e1]
          rfl
        · exact l_M_work_79 hm hr ht em hm6 hroom hp
      · skip
        refine xp_iconst (v := 1) d_M_work_61 (by decide) ?_
        refine xp_goto (tgt := 66) d_M_work_62 (by decide) ?_
        refine xp_istore d_M_work_66 (by decide) ?_
        refine xp_iconst (v := 1) d_M_work_68 (by decide) ?_
        refine xp_istore d_M_work_69 (by decide) ?_
        refine xp_aload_n d_M_work_71 rfl ?_
        refine xm_getR d_M_work_72 fg_M_56 hz (by assumption) ?_
        refine xp_iload_n d_M_work_75 rfl ?_
        refine xm_iaload d_M_work_76 rfl (by decide) hz rfl (by omega) (by decide) ?_
        refine xp_istore d_M_work_77 (by decide) ?_
        refine xp_loc (lv' := [(0, .ref 68), (1, .int (nI r)), (2, .int (nI t)), (3, .int (s_sv (J 83 r))), (4, .int (s_ob (J 83 r))), (5, .int (s_lv (J 83 r))), (6, .int (s_one (s_ob (J 83 r)) (s_lv (J 83 r)))), (7, .int 1), (8, .int (J 84 r))]) ⟨rfl, rfl, ?_, rfl, rfl, rfl, ?_, rfl, rfl, trivial⟩ ?_
        · show some (Value.int (J 82 r)) = _
          rw [et]
        · have e1 : s_one (s_ob (J 83 r)) (s_lv (J 83 r)) = 1 := by
            unfold s_one s_ob s_lv
            simp only [if_pos c45, if_neg c51, if_neg c58]
          rw [e1]
          rfl
        · exact l_M_work_79 hm hr ht em hm6 hroom hp
end partA6
