/-! the model's frames -/
def s_gb (shape b c : Int32) (k : Nat) : Int32 := if c &&& 1 = b >>> (nI k &&& 31) &&& 1 then c / 2 else (c / 2) ^^^ shape
def s_gy (shape b c : Int32) : Nat → Int32
  | 0 => c
  | k + 1 => s_gb shape b (s_gy shape b c k) k
def s_cr (shape : Int32) (g : Nat → Int32) (fr : Nat) (c : Int32) : Nat → Int32
  | 0 => c
  | k + 1 => s_gy shape (g (fr + k)) (s_cr shape g fr c k) 8
def s_hc (J : xI) (f : Nat) : Int32 := 255 - s_cr 129 (fun i => J 99 (18 * f + i)) 2 255 5
def s_dc (J : xI) (f : Nat) : Int32 := 65535 - s_cr 33800 (fun i => J 99 (18 * f + i)) 8 65535 8
def s_l4 (J : xI) (a : Nat) (sv id ob le : Int32) : xI := x_up (x_up (x_up (x_up J 99 a sv) 99 (a + 1) id) 99 (a + 2) ob) 99 (a + 3) le
def s_ly (J : xI) (a : Nat) (v : Int32) : Nat → xI
  | 0 => J
  | k + 1 => x_up (s_ly J a v k) 99 (a + 4 + k) (v >>> (24 - 8 * nI k &&& 31) &&& 255)
def s_lay (J : xI) (f : Nat) (sv id ob le v : Int32) : xI := s_ly (s_l4 J (18 * f + 8) sv id ob le) (18 * f + 8) v 4
def s_arr (J : xI) (f : Nat) (v7 v8 : Int32) : Int32 := if v7 = 0 then 0 else if v8 = 0 then 0 else if s_isN (J 99 (18 * f + 3)) = 0 then 0 else if J 69 (k_tn (J 99 (18 * f + 3))) = 0 then 0 else 1
def s_rest (J : xI) (f : Nat) : Int32 := if J 99 (18 * f + 6) = 0 then 1 else if J 99 (18 * f + 6) = 8 then (if J 99 (18 * f + 16) + 256 * J 99 (18 * f + 17) = s_dc J f then 1 else 0) else 0
def s_head (J : xI) (f : Nat) : Int32 := if J 99 (18 * f) = 85 then (if J 99 (18 * f + 1) = 255 then (if J 99 (18 * f + 7) = s_hc J f then 1 else 0) else 0) else 0
def s_spl (J : xI) (f s : Nat) : xI := if J 68 44 ≤ 0 then J else if J 68 42 = nI f then (if J 100 f ≤ J 68 43 then J else x_up J 99 (18 * f + s) (J 99 (18 * f + s) ^^^ J 68 44)) else J
abbrev s_h1 (J : xI) (f : Nat) : xI := x_up J 68 39 (nI f + 1)
def s_h7 (J : xI) (f : Nat) (ty to so : Int32) (n : Int32) : xI := x_up (x_up (x_up (x_up (x_up (x_up (x_up (s_h1 J f) 99 (18 * f) 85) 99 (18 * f + 1) 255) 99 (18 * f + 2) ty) 99 (18 * f + 3) to) 99 (18 * f + 4) so) 99 (18 * f + 5) 0) 99 (18 * f + 6) n
def s_h8 (J : xI) (f : Nat) (ty to so n len : Int32) : xI := x_up (x_up (s_h7 J f ty to so n) 99 (18 * f + 7) (s_hc (s_h7 J f ty to so n) f)) 100 f len
def s_hd (J : xI) (f : Nat) (ty to so d : Int32) : xI := if d = 0 then s_h8 J f ty to so 0 8 else x_up (x_up (s_h8 J f ty to so 8 18) 99 (18 * f + 16) (s_dc (s_h8 J f ty to so 8 18) f - s_dc (s_h8 J f ty to so 8 18) f / 256 * 256)) 99 (18 * f + 17) (s_dc (s_h8 J f ty to so 8 18) f / 256)
def s_caJ (J : xI) (f s : Nat) (ty to so d : Int32) : xI := s_spl (s_hd J f ty to so d) f s
def s_caV (J : xI) (f s : Nat) (ty to so d : Int32) : Int32 := s_arr (s_caJ J f s ty to so d) f (s_head (s_caJ J f s ty to so d) f) (s_rest (s_caJ J f s ty to so d) f)
section partA4
variable {G : xG} {z : Nat} {I J : xI} {P : xP} {post : Option Value → xH → Prop} {h0 : xH}
set_option maxRecDepth 100000 in
set_option maxHeartbeats 1000000 in
theorem l_M_grown_5 {b sh c : Int32} (hp : post (some (.int (s_gy sh b c 8))) h0) : ∀ q k : Nat, q + k = 8 → xp G M_M_grown 5 [(1, .int b), (2, .int sh), (3, .int (s_gy sh b c k)), (4, .int (nI k))] [] h0 0 0 post := by
  intro q
  induction q with
  | zero =>
    intro k hk
    have hk : k = 8 := by omega
    subst hk
    refine xp_iload d_M_grown_5 rfl ?_
    refine xp_bipush (v := 8) d_M_grown_7 (by decide) ?_
    refine xp_icmp_ge (tgt := 54) d_M_grown_9 (by decide) (fun c9 => ?_) (fun c9 => absurd (show (8 : Int32) ≤ nI 8 by decide) c9)
    refine xp_iload_n d_M_grown_54 rfl ?_
    refine xp_ireturn d_M_grown_55 rfl rfl ?_
    exact hp
  | succ q ih =>
    intro k hk
    refine xp_iload d_M_grown_5 rfl ?_
    refine xp_bipush (v := 8) d_M_grown_7 (by decide) ?_
    refine xp_icmp_ge (tgt := 54) d_M_grown_9 (by decide) (fun c9 => absurd c9 (fun e => by have := (nI_leI (a := 8) (b := k) (by decide) (by omega)).mp e; omega)) (fun c9 => ?_)
    refine xp_iload_n d_M_grown_12 rfl ?_
    refine xp_iconst (v := 1) d_M_grown_13 (by decide) ?_
    refine xp_iand d_M_grown_14 ?_
    refine xp_iload_n d_M_grown_15 rfl ?_
    refine xp_iload d_M_grown_16 rfl ?_
    refine xp_ishr d_M_grown_18 ?_
    refine xp_iconst (v := 1) d_M_grown_19 (by decide) ?_
    refine xp_iand d_M_grown_20 ?_
    refine xp_icmp_eq (tgt := 28) d_M_grown_21 (by decide) (fun c21 => ?_) (fun c21 => ?_)
    · skip
      refine xp_iconst (v := 0) d_M_grown_28 (by decide) ?_
      refine xp_istore d_M_grown_29 (by decide) ?_
      refine xp_iload d_M_grown_31 rfl ?_
      refine xp_if_eq (tgt := 44) d_M_grown_33 (by decide) (fun _ => ?_) (fun h => absurd (by decide) h)
      refine xp_iload_n d_M_grown_44 rfl ?_
      refine xp_iconst (v := 2) d_M_grown_45 (by decide) ?_
      refine xp_idiv d_M_grown_46 (by decide) ?_
      refine xp_istore_n d_M_grown_47 (by decide) ?_
      refine xp_inc1 d_M_grown_48 rfl (by decide) ?_
      refine xp_goto (tgt := 5) d_M_grown_51 (by decide) ?_
      refine xp_loc (lv' := [(1, .int b), (2, .int sh), (3, .int (s_gy sh b c (k + 1))), (4, .int (nI (k + 1)))]) ?_ (ih (k + 1) (by omega))
      refine ⟨rfl, rfl, ?_, rfl, trivial⟩
      show _ = some (Value.int (s_gb sh b (s_gy sh b c k) k))
      unfold s_gb
      simp only [if_pos c21]
      rfl
    · skip
      refine xp_iconst (v := 1) d_M_grown_24 (by decide) ?_
      refine xp_goto (tgt := 29) d_M_grown_25 (by decide) ?_
      refine xp_istore d_M_grown_29 (by decide) ?_
      refine xp_iload d_M_grown_31 rfl ?_
      refine xp_if_eq (tgt := 44) d_M_grown_33 (by decide) (fun h => absurd h (by decide)) (fun _ => ?_)
      refine xp_iload_n d_M_grown_36 rfl ?_
      refine xp_iconst (v := 2) d_M_grown_37 (by decide) ?_
      refine xp_idiv d_M_grown_38 (by decide) ?_
      refine xp_iload_n d_M_grown_39 rfl ?_
      refine xp_ixor d_M_grown_40 ?_
      refine xp_goto (tgt := 47) d_M_grown_41 (by decide) ?_
      refine xp_istore_n d_M_grown_47 (by decide) ?_
      refine xp_inc1 d_M_grown_48 rfl (by decide) ?_
      refine xp_goto (tgt := 5) d_M_grown_51 (by decide) ?_
      refine xp_loc (lv' := [(1, .int b), (2, .int sh), (3, .int (s_gy sh b c (k + 1))), (4, .int (nI (k + 1)))]) ?_ (ih (k + 1) (by omega))
      refine ⟨rfl, rfl, ?_, rfl, trivial⟩
      show _ = some (Value.int (s_gb sh b (s_gy sh b c k) k))
      unfold s_gb
      simp only [if_neg c21]
      rfl
set_option maxRecDepth 100000 in
set_option maxHeartbeats 1000000 in
theorem c_M_grown {b sh c : Int32} (hp : post (some (.int (s_gy sh b c 8))) h0) : xp G M_M_grown 0 [(0, .int c), (1, .int b), (2, .int sh)] [] h0 0 0 post := by
  refine xp_iload_n d_M_grown_0 rfl ?_
  refine xp_istore_n d_M_grown_1 (by decide) ?_
  refine xp_iconst (v := 0) d_M_grown_2 (by decide) ?_
  refine xp_istore d_M_grown_3 (by decide) ?_
  refine xp_loc (lv' := [(1, .int b), (2, .int sh), (3, .int (s_gy sh b c 0)), (4, .int (nI 0))]) ⟨rfl, rfl, rfl, rfl, trivial⟩ ?_
  exact l_M_grown_5 hp 8 0 rfl
set_option maxRecDepth 100000 in
set_option maxHeartbeats 1000000 in
theorem l_M_headCheck_6 (hm : x_mdl z P) {f : Nat} (hf : f ≤ 1) (hp : post (some (.int (s_hc J f))) (z, x_mg I J, P)) : ∀ q m : Nat, q + m = 5 → xp G M_M_headCheck 6 [(0, .ref 68), (1, .int (nI f)), (2, .int (s_cr 129 (fun i => J 99 (18 * f + i)) 2 255 m)), (3, .int (nI (2 + m)))] [] (z, x_mg I J, P) 0 0 post := by
  obtain ⟨hz, m_powered, m_next, m_polled, m_count, m_tokens, m_input, m_setpoint, m_gainP, m_gainI, m_sum, m_level, m_taken, m_from, m_target, m_what, m_given, m_state, m_tries, m_got, m_error, m_reply, m_kept, m_whose, m_object, m_seen, m_due, m_notedNode, m_notedObject, m_notedValue, m_notices, m_bytes, m_length⟩ := id hm
  intro q
  induction q with
  | zero =>
    intro m hk
    have hk : m = 5 := by omega
    subst hk
    refine xp_iload_n d_M_headCheck_6 rfl ?_
    refine xp_bipush (v := 7) d_M_headCheck_7 (by decide) ?_
    refine xp_icmp_ge (tgt := 37) d_M_headCheck_9 (by decide) (fun c9 => ?_) (fun c9 => absurd (show (7 : Int32) ≤ nI (2 + 5) by decide) c9)
    refine xp_sipush (v := 255) d_M_headCheck_37 (by decide) ?_
    refine xp_iload_n d_M_headCheck_40 rfl ?_
    refine xp_isub d_M_headCheck_41 ?_
    refine xp_ireturn d_M_headCheck_42 rfl rfl ?_
    exact hp
  | succ q ih =>
    intro m hk
    refine xp_iload_n d_M_headCheck_6 rfl ?_
    refine xp_bipush (v := 7) d_M_headCheck_7 (by decide) ?_
    refine xp_icmp_ge (tgt := 37) d_M_headCheck_9 (by decide) (fun c9 => absurd c9 (fun e => by have := (nI_leI (a := 7) (b := 2 + m) (by decide) (by omega)).mp e; omega)) (fun c9 => ?_)
    refine xp_iload_n d_M_headCheck_12 rfl ?_
    refine xp_aload_n d_M_headCheck_13 rfl ?_
    refine xm_getR d_M_headCheck_14 fg_M_101 hz (by assumption) ?_
    refine xp_bipush (v := 18) d_M_headCheck_17 (by decide) ?_
    refine xp_iload_n d_M_headCheck_19 rfl ?_
    refine xp_imul d_M_headCheck_20 ?_
    refine xp_iload_n d_M_headCheck_21 rfl ?_
    refine xp_iadd d_M_headCheck_22 ?_
    refine xm_iaload d_M_headCheck_23 rfl (by decide) hz (x_mulA 18 f (2 + m)) (by omega) (by decide) ?_
    refine xp_sipush (v := 129) d_M_headCheck_24 (by decide) ?_
    refine xq_S3r d_M_headCheck_27 g_M_headCheck_141 rfl rfl ?_
    refine c_M_grown ?_
    refine ⟨_, rfl, ?_⟩
    refine xp_istore_n d_M_headCheck_30 (by decide) ?_
    refine xp_inc1 d_M_headCheck_31 rfl (by decide) ?_
    refine xp_goto (tgt := 6) d_M_headCheck_34 (by decide) ?_
    refine xp_loc (lv' := [(0, .ref 68), (1, .int (nI f)), (2, .int (s_cr 129 (fun i => J 99 (18 * f + i)) 2 255 (m + 1))), (3, .int (nI (2 + (m + 1))))]) ⟨rfl, rfl, rfl, rfl, trivial⟩ ?_
    exact ih (m + 1) (by omega)
set_option maxRecDepth 100000 in
set_option maxHeartbeats 1000000 in
theorem c_M_headCheck (hm : x_mdl z P) {f : Nat} (hf : f ≤ 1) (hp : post (some (.int (s_hc J f))) (z, x_mg I J, P)) : xp G M_M_headCheck 0 [(0, .ref 68), (1, .int (nI f))] [] (z, x_mg I J, P) 0 0 post := by
  obtain ⟨hz, m_powered, m_next, m_polled, m_count, m_tokens, m_input, m_setpoint, m_gainP, m_gainI, m_sum, m_level, m_taken, m_from, m_target, m_what, m_given, m_state, m_tries, m_got, m_error, m_reply, m_kept, m_whose, m_object, m_seen, m_due, m_notedNode, m_notedObject, m_notedValue, m_notices, m_bytes, m_length⟩ := id hm
  refine xp_sipush (v := 255) d_M_headCheck_0 (by decide) ?_
  refine xp_istore_n d_M_headCheck_3 (by decide) ?_
  refine xp_iconst (v := 2) d_M_headCheck_4 (by decide) ?_
  refine xp_istore_n d_M_headCheck_5 (by decide) ?_
  refine xp_loc (lv' := [(0, .ref 68), (1, .int (nI f)), (2, .int (s_cr 129 (fun i => J 99 (18 * f + i)) 2 255 0)), (3, .int (nI (2 + 0)))]) ⟨rfl, rfl, rfl, rfl, trivial⟩ ?_
  exact l_M_headCheck_6 hm hf hp 5 0 rfl
set_option maxRecDepth 100000 in
set_option maxHeartbeats 1000000 in
theorem l_M_dataCheck_6 (hm : x_mdl z P) {f : Nat} (hf : f ≤ 1) (hp : post (some (.int (s_dc J f))) (z, x_mg I J, P)) : ∀ q m : Nat, q + m = 8 → xp G M_M_dataCheck 6 [(0, .ref 68), (1, .int (nI f)), (2, .int (s_cr 33800 (fun i => J 99 (18 * f + i)) 8 65535 m)), (3, .int (nI (8 + m)))] [] (z, x_mg I J, P) 0 0 post := by
  obtain ⟨hz, m_powered, m_next, m_polled, m_count, m_tokens, m_input, m_setpoint, m_gainP, m_gainI, m_sum, m_level, m_taken, m_from, m_target, m_what, m_given, m_state, m_tries, m_got, m_error, m_reply, m_kept, m_whose, m_object, m_seen, m_due, m_notedNode, m_notedObject, m_notedValue, m_notices, m_bytes, m_length⟩ := id hm
  intro q
  induction q with
  | zero =>
    intro m hk
    have hk : m = 8 := by omega
    subst hk
    refine xp_iload_n d_M_dataCheck_6 rfl ?_
    refine xp_bipush (v := 16) d_M_dataCheck_7 (by decide) ?_
    refine xp_icmp_ge (tgt := 36) d_M_dataCheck_9 (by decide) (fun c9 => ?_) (fun c9 => absurd (show (16 : Int32) ≤ nI (8 + 8) by decide) c9)
    refine xp_ldc d_M_dataCheck_36 ct_M_145 ?_
    refine xp_iload_n d_M_dataCheck_38 rfl ?_
    refine xp_isub d_M_dataCheck_39 ?_
    refine xp_ireturn d_M_dataCheck_40 rfl rfl ?_
    exact hp
  | succ q ih =>
    intro m hk
    refine xp_iload_n d_M_dataCheck_6 rfl ?_
    refine xp_bipush (v := 16) d_M_dataCheck_7 (by decide) ?_
    refine xp_icmp_ge (tgt := 36) d_M_dataCheck_9 (by decide) (fun c9 => absurd c9 (fun e => by have := (nI_leI (a := 16) (b := 8 + m) (by decide) (by omega)).mp e; omega)) (fun c9 => ?_)
    refine xp_iload_n d_M_dataCheck_12 rfl ?_
    refine xp_aload_n d_M_dataCheck_13 rfl ?_
    refine xm_getR d_M_dataCheck_14 fg_M_101 hz (by assumption) ?_
    refine xp_bipush (v := 18) d_M_dataCheck_17 (by decide) ?_
    refine xp_iload_n d_M_dataCheck_19 rfl ?_
    refine xp_imul d_M_dataCheck_20 ?_
    refine xp_iload_n d_M_dataCheck_21 rfl ?_
    refine xp_iadd d_M_dataCheck_22 ?_
    refine xm_iaload d_M_dataCheck_23 rfl (by decide) hz (x_mulA 18 f (8 + m)) (by omega) (by decide) ?_
    refine xp_ldc d_M_dataCheck_24 ct_M_146 ?_
    refine xq_S3r d_M_dataCheck_26 g_M_dataCheck_141 rfl rfl ?_
    refine c_M_grown ?_
    refine ⟨_, rfl, ?_⟩
    refine xp_istore_n d_M_dataCheck_29 (by decide) ?_
    refine xp_inc1 d_M_dataCheck_30 rfl (by decide) ?_
    refine xp_goto (tgt := 6) d_M_dataCheck_33 (by decide) ?_
    refine xp_loc (lv' := [(0, .ref 68), (1, .int (nI f)), (2, .int (s_cr 33800 (fun i => J 99 (18 * f + i)) 8 65535 (m + 1))), (3, .int (nI (8 + (m + 1))))]) ⟨rfl, rfl, rfl, rfl, trivial⟩ ?_
    exact ih (m + 1) (by omega)
set_option maxRecDepth 100000 in
set_option maxHeartbeats 1000000 in
theorem c_M_dataCheck (hm : x_mdl z P) {f : Nat} (hf : f ≤ 1) (hp : post (some (.int (s_dc J f))) (z, x_mg I J, P)) : xp G M_M_dataCheck 0 [(0, .ref 68), (1, .int (nI f))] [] (z, x_mg I J, P) 0 0 post := by
  obtain ⟨hz, m_powered, m_next, m_polled, m_count, m_tokens, m_input, m_setpoint, m_gainP, m_gainI, m_sum, m_level, m_taken, m_from, m_target, m_what, m_given, m_state, m_tries, m_got, m_error, m_reply, m_kept, m_whose, m_object, m_seen, m_due, m_notedNode, m_notedObject, m_notedValue, m_notices, m_bytes, m_length⟩ := id hm
  refine xp_ldc d_M_dataCheck_0 ct_M_145 ?_
  refine xp_istore_n d_M_dataCheck_2 (by decide) ?_
  refine xp_bipush (v := 8) d_M_dataCheck_3 (by decide) ?_
  refine xp_istore_n d_M_dataCheck_5 (by decide) ?_
  refine xp_loc (lv' := [(0, .ref 68), (1, .int (nI f)), (2, .int (s_cr 33800 (fun i => J 99 (18 * f + i)) 8 65535 0)), (3, .int (nI (8 + 0)))]) ⟨rfl, rfl, rfl, rfl, trivial⟩ ?_
  exact l_M_dataCheck_6 hm hf hp 8 0 rfl
set_option maxRecDepth 100000 in
set_option maxHeartbeats 1000000 in
theorem l_M_lay_54 (hm : x_mdl z P) {f : Nat} {v : Int32} (hf : f ≤ 1) (hp : post none (z, x_mg I (s_ly J (18 * f + 8) v 4), P)) : ∀ q k : Nat, q + k = 4 → xp G M_M_lay 54 [(0, .ref 68), (5, .int v), (6, .int (nI (18 * f + 8))), (7, .int (nI k))] [] (z, x_mg I (s_ly J (18 * f + 8) v k), P) 0 0 post := by
  obtain ⟨hz, m_powered, m_next, m_polled, m_count, m_tokens, m_input, m_setpoint, m_gainP, m_gainI, m_sum, m_level, m_taken, m_from, m_target, m_what, m_given, m_state, m_tries, m_got, m_error, m_reply, m_kept, m_whose, m_object, m_seen, m_due, m_notedNode, m_notedObject, m_notedValue, m_notices, m_bytes, m_length⟩ := id hm
  intro q
  induction q with
  | zero =>
    intro k hk
    have hk : k = 4 := by omega
    subst hk
    refine xp_iload d_M_lay_54 rfl ?_
    refine xp_iconst (v := 4) d_M_lay_56 (by decide) ?_
    refine xp_icmp_ge (tgt := 93) d_M_lay_57 (by decide) (fun c57 => ?_) (fun c57 => absurd (show (4 : Int32) ≤ nI 4 by decide) c57)
    refine xp_return_ d_M_lay_93 rfl ?_
    exact hp
  | succ q ih =>
    intro k hk
    refine xp_iload d_M_lay_54 rfl ?_
    refine xp_iconst (v := 4) d_M_lay_56 (by decide) ?_
    refine xp_icmp_ge (tgt := 93) d_M_lay_57 (by decide) (fun c57 => absurd c57 (fun e => by have := (nI_leI (a := 4) (b := k) (by decide) (by omega)).mp e; omega)) (fun c57 => ?_)
    refine xp_aload_n d_M_lay_60 rfl ?_
    refine xm_getR d_M_lay_61 fg_M_101 hz (by assumption) ?_
    refine xp_iload d_M_lay_64 rfl ?_
    refine xp_iconst (v := 4) d_M_lay_66 (by decide) ?_
    refine xp_iadd d_M_lay_67 ?_
    refine xp_iload d_M_lay_68 rfl ?_
    refine xp_iadd d_M_lay_70 ?_
    refine xp_iload d_M_lay_71 rfl ?_
    refine xp_bipush (v := 24) d_M_lay_73 (by decide) ?_
    refine xp_bipush (v := 8) d_M_lay_75 (by decide) ?_
    refine xp_iload d_M_lay_77 rfl ?_
    refine xp_imul d_M_lay_79 ?_
    refine xp_isub d_M_lay_80 ?_
    refine xp_ishr d_M_lay_81 ?_
    refine xp_sipush (v := 255) d_M_lay_82 (by decide) ?_
    refine xp_iand d_M_lay_85 ?_
    refine xm_iastore d_M_lay_86 rfl (by decide) hz (show nI (18 * f + 8) + 4 + nI k = nI (18 * f + 8 + 4 + k) by rw [show nI (18 * f + 8) + 4 = nI (18 * f + 8 + 4) from x_addA _ 4, x_addA]) (by omega) (by decide) ?_
    refine xp_inc1 d_M_lay_87 rfl (by decide) ?_
    refine xp_goto (tgt := 54) d_M_lay_90 (by decide) ?_
    refine xp_loc (lv' := [(0, .ref 68), (5, .int v), (6, .int (nI (18 * f + 8))), (7, .int (nI (k + 1)))]) ⟨rfl, rfl, rfl, rfl, trivial⟩ ?_
    exact ih (k + 1) (by omega)
set_option maxRecDepth 100000 in
set_option maxHeartbeats 1000000 in
theorem c_M_lay (hm : x_mdl z P) {sv ie ob le v : Int32} {f : Nat} (hf : f ≤ 1) (ef : J 68 39 = nI f) (hp : post none (z, x_mg I (s_lay J f sv ie ob le v), P)) : xp G M_M_lay 0 [(0, .ref 68), (1, .int sv), (2, .int ie), (3, .int ob), (4, .int le), (5, .int v)] [] (z, x_mg I J, P) 0 0 post := by
  obtain ⟨hz, m_powered, m_next, m_polled, m_count, m_tokens, m_input, m_setpoint, m_gainP, m_gainI, m_sum, m_level, m_taken, m_from, m_target, m_what, m_given, m_state, m_tries, m_got, m_error, m_reply, m_kept, m_whose, m_object, m_seen, m_due, m_notedNode, m_notedObject, m_notedValue, m_notices, m_bytes, m_length⟩ := id hm
  refine xp_bipush (v := 18) d_M_lay_0 (by decide) ?_
  refine xp_aload_n d_M_lay_2 rfl ?_
  refine xm_getI d_M_lay_3 fg_M_147 hz ?_
  rw [ef]
  refine xp_imul d_M_lay_6 ?_
  refine xp_bipush (v := 8) d_M_lay_7 (by decide) ?_
  refine xp_iadd d_M_lay_9 ?_
  rw [show (18 : Int32) * nI f + 8 = nI (18 * f + 8) from x_mulA 18 f 8]
  refine xp_istore d_M_lay_10 (by decide) ?_
  refine xp_aload_n d_M_lay_12 rfl ?_
  refine xm_getR d_M_lay_13 fg_M_101 hz (by assumption) ?_
  refine xp_iload d_M_lay_16 rfl ?_
  refine xp_iload_n d_M_lay_18 rfl ?_
  refine xm_iastore d_M_lay_19 rfl (by decide) hz rfl (by omega) (by decide) ?_
  refine xp_aload_n d_M_lay_20 rfl ?_
  refine xm_getR d_M_lay_21 fg_M_101 hz (by assumption) ?_
  refine xp_iload d_M_lay_24 rfl ?_
  refine xp_iconst (v := 1) d_M_lay_26 (by decide) ?_
  refine xp_iadd d_M_lay_27 ?_
  refine xp_iload_n d_M_lay_28 rfl ?_
  refine xm_iastore d_M_lay_29 rfl (by decide) hz (x_addA (18 * f + 8) 1) (by omega) (by decide) ?_
  refine xp_aload_n d_M_lay_30 rfl ?_
  refine xm_getR d_M_lay_31 fg_M_101 hz (by assumption) ?_
  refine xp_iload d_M_lay_34 rfl ?_
  refine xp_iconst (v := 2) d_M_lay_36 (by decide) ?_
  refine xp_iadd d_M_lay_37 ?_
  refine xp_iload_n d_M_lay_38 rfl ?_
  refine xm_iastore d_M_lay_39 rfl (by decide) hz (x_addA (18 * f + 8) 2) (by omega) (by decide) ?_
  refine xp_aload_n d_M_lay_40 rfl ?_
  refine xm_getR d_M_lay_41 fg_M_101 hz (by assumption) ?_
  refine xp_iload d_M_lay_44 rfl ?_
  refine xp_iconst (v := 3) d_M_lay_46 (by decide) ?_
  refine xp_iadd d_M_lay_47 ?_
  refine xp_iload d_M_lay_48 rfl ?_
  refine xm_iastore d_M_lay_50 rfl (by decide) hz (x_addA (18 * f + 8) 3) (by omega) (by decide) ?_
  refine xp_iconst (v := 0) d_M_lay_51 (by decide) ?_
  refine xp_istore d_M_lay_52 (by decide) ?_
  refine xp_loc (lv' := [(0, .ref 68), (5, .int v), (6, .int (nI (18 * f + 8))), (7, .int (nI 0))]) ⟨rfl, rfl, rfl, rfl, trivial⟩ ?_
  exact l_M_lay_54 (J := s_l4 J (18 * f + 8) sv ie ob le) hm hf hp 4 0 rfl
set_option maxRecDepth 100000 in
set_option maxHeartbeats 1000000 in
theorem l_M_carry_356 (hm : x_mdl z P) {f : Nat} {v7 v8 : Int32} (hf : f ≤ 1) (hp : post (some (.int (s_arr J f v7 v8))) (z, x_mg I J, P)) : xp G M_M_carry 356 [(0, .ref 68), (5, .int (nI f)), (6, .int (nI (18 * f))), (7, .int v7), (8, .int v8)] [] (z, x_mg I J, P) 0 0 post := by
  obtain ⟨hz, m_powered, m_next, m_polled, m_count, m_tokens, m_input, m_setpoint, m_gainP, m_gainI, m_sum, m_level, m_taken, m_from, m_target, m_what, m_given, m_state, m_tries, m_got, m_error, m_reply, m_kept, m_whose, m_object, m_seen, m_due, m_notedNode, m_notedObject, m_notedValue, m_notices, m_bytes, m_length⟩ := id hm
  unfold s_arr at hp
  refine xp_iload d_M_carry_356 rfl ?_
  refine xp_if_eq (tgt := 402) d_M_carry_358 (by decide) (fun c358 => ?_) (fun c358 => ?_)
  · skip
    refine xp_iconst (v := 0) d_M_carry_402 (by decide) ?_
    refine xp_ireturn d_M_carry_403 rfl (x_bit (by first | exact Or.inl rfl | exact Or.inr rfl | assumption)).1 ?_
    simp only [if_pos c358] at hp
    exact hp
  · skip
    refine xp_iload d_M_carry_361 rfl ?_
    refine xp_if_eq (tgt := 402) d_M_carry_363 (by decide) (fun c363 => ?_) (fun c363 => ?_)
    · skip
      refine xp_iconst (v := 0) d_M_carry_402 (by decide) ?_
      refine xp_ireturn d_M_carry_403 rfl (x_bit (by first | exact Or.inl rfl | exact Or.inr rfl | assumption)).1 ?_
      simp only [if_neg c358, if_pos c363] at hp
      exact hp
    · skip
      refine xp_aload_n d_M_carry_366 rfl ?_
      refine xm_getR d_M_carry_367 fg_M_101 hz (by assumption) ?_
      refine xp_iload d_M_carry_370 rfl ?_
      refine xp_iconst (v := 3) d_M_carry_372 (by decide) ?_
      refine xp_iadd d_M_carry_373 ?_
      refine xm_iaload d_M_carry_374 rfl (by decide) hz (x_addA (18 * f) 3) (by omega) (by decide) ?_
      refine xq_S1r d_M_carry_375 g_M_carry_111 rfl rfl ?_
      refine c_M_isNode ?_
      refine ⟨_, rfl, ?_⟩
      refine xp_if_eq (tgt := 402) d_M_carry_378 (by decide) (fun c378 => ?_) (fun c378 => ?_)
      · skip
        refine xp_iconst (v := 0) d_M_carry_402 (by decide) ?_
        refine xp_ireturn d_M_carry_403 rfl (x_bit (by first | exact Or.inl rfl | exact Or.inr rfl | assumption)).1 ?_
        simp only [if_neg c358, if_neg c363, if_pos c378] at hp
        exact hp
      · skip
        obtain ⟨j, hj, ej⟩ := s_isN_ix c378
        simp only [show k_tn (J 99 (18 * f + 3)) = j by rw [ej]; exact k_tn_nI (by omega)] at hp
        refine xp_aload_n d_M_carry_381 rfl ?_
        refine xm_getR d_M_carry_382 fg_M_7 hz (by assumption) ?_
        refine xp_aload_n d_M_carry_385 rfl ?_
        refine xm_getR d_M_carry_386 fg_M_101 hz (by assumption) ?_
        refine xp_iload d_M_carry_389 rfl ?_
        refine xp_iconst (v := 3) d_M_carry_391 (by decide) ?_
        refine xp_iadd d_M_carry_392 ?_
        refine xm_iaload d_M_carry_393 rfl (by decide) hz (x_addA (18 * f) 3) (by omega) (by decide) ?_
        refine xm_baload d_M_carry_394 rfl (by decide) hz ej (by omega) (by decide) ?_
        refine xp_if_eq (tgt := 402) d_M_carry_395 (by decide) (fun c395 => ?_) (fun c395 => ?_)
        · skip
          refine xp_iconst (v := 0) d_M_carry_402 (by decide) ?_
          refine xp_ireturn d_M_carry_403 rfl (x_bit (by first | exact Or.inl rfl | exact Or.inr rfl | assumption)).1 ?_
          simp only [if_neg c358, if_neg c363, if_neg c378, if_pos c395] at hp
          exact hp
        · skip
          refine xp_iconst (v := 1) d_M_carry_398 (by decide) ?_
          refine xp_goto (tgt := 403) d_M_carry_399 (by decide) ?_
          refine xp_ireturn d_M_carry_403 rfl (x_bit (by first | exact Or.inl rfl | exact Or.inr rfl | assumption)).1 ?_
          simp only [if_neg c358, if_neg c363, if_neg c378, if_neg c395] at hp
          exact hp
set_option maxRecDepth 100000 in
set_option maxHeartbeats 1000000 in
theorem l_M_carry_287 (hm : x_mdl z P) {f : Nat} {v7 : Int32} (hf : f ≤ 1) (hp : post (some (.int (s_arr J f v7 (s_rest J f)))) (z, x_mg I J, P)) : xp G M_M_carry 287 [(0, .ref 68), (5, .int (nI f)), (6, .int (nI (18 * f))), (7, .int v7)] [] (z, x_mg I J, P) 0 0 post := by
  obtain ⟨hz, m_powered, m_next, m_polled, m_count, m_tokens, m_input, m_setpoint, m_gainP, m_gainI, m_sum, m_level, m_taken, m_from, m_target, m_what, m_given, m_state, m_tries, m_got, m_error, m_reply, m_kept, m_whose, m_object, m_seen, m_due, m_notedNode, m_notedObject, m_notedValue, m_notices, m_bytes, m_length⟩ := id hm
  unfold s_rest at hp
  refine xp_aload_n d_M_carry_287 rfl ?_
  refine xm_getR d_M_carry_288 fg_M_101 hz (by assumption) ?_
  refine xp_iload d_M_carry_291 rfl ?_
  refine xp_bipush (v := 6) d_M_carry_293 (by decide) ?_
  refine xp_iadd d_M_carry_295 ?_
  refine xm_iaload d_M_carry_296 rfl (by decide) hz (x_addA (18 * f) 6) (by omega) (by decide) ?_
  refine xp_if_eq (tgt := 349) d_M_carry_297 (by decide) (fun c297 => ?_) (fun c297 => ?_)
  · skip
    refine xp_iconst (v := 1) d_M_carry_349 (by decide) ?_
    refine xp_goto (tgt := 354) d_M_carry_350 (by decide) ?_
    refine xp_istore d_M_carry_354 (by decide) ?_
    simp only [if_pos c297] at hp
    refine xp_loc (lv' := [(0, .ref 68), (5, .int (nI f)), (6, .int (nI (18 * f))), (7, .int v7), (8, .int 1)]) ⟨rfl, rfl, rfl, rfl, rfl, trivial⟩ ?_
    exact l_M_carry_356 hm hf hp
  · skip
    refine xp_aload_n d_M_carry_300 rfl ?_
    refine xm_getR d_M_carry_301 fg_M_101 hz (by assumption) ?_
    refine xp_iload d_M_carry_304 rfl ?_
    refine xp_bipush (v := 6) d_M_carry_306 (by decide) ?_
    refine xp_iadd d_M_carry_308 ?_
    refine xm_iaload d_M_carry_309 rfl (by decide) hz (x_addA (18 * f) 6) (by omega) (by decide) ?_
    refine xp_bipush (v := 8) d_M_carry_310 (by decide) ?_
    refine xp_icmp_ne (tgt := 353) d_M_carry_312 (by decide) (fun c312 => ?_) (fun c312 => ?_)
    · skip
      refine xp_iconst (v := 0) d_M_carry_353 (by decide) ?_
      refine xp_istore d_M_carry_354 (by decide) ?_
      simp only [if_neg c297, if_neg c312] at hp
      refine xp_loc (lv' := [(0, .ref 68), (5, .int (nI f)), (6, .int (nI (18 * f))), (7, .int v7), (8, .int 0)]) ⟨rfl, rfl, rfl, rfl, rfl, trivial⟩ ?_
      exact l_M_carry_356 hm hf hp
    · skip
      refine xp_aload_n d_M_carry_315 rfl ?_
      refine xm_getR d_M_carry_316 fg_M_101 hz (by assumption) ?_
      refine xp_iload d_M_carry_319 rfl ?_
      refine xp_bipush (v := 16) d_M_carry_321 (by decide) ?_
      refine xp_iadd d_M_carry_323 ?_
      refine xm_iaload d_M_carry_324 rfl (by decide) hz (x_addA (18 * f) 16) (by omega) (by decide) ?_
      refine xp_sipush (v := 256) d_M_carry_325 (by decide) ?_
      refine xp_aload_n d_M_carry_328 rfl ?_
      refine xm_getR d_M_carry_329 fg_M_101 hz (by assumption) ?_
      refine xp_iload d_M_carry_332 rfl ?_
      refine xp_bipush (v := 17) d_M_carry_334 (by decide) ?_
      refine xp_iadd d_M_carry_336 ?_
      refine xm_iaload d_M_carry_337 rfl (by decide) hz (x_addA (18 * f) 17) (by omega) (by decide) ?_
      refine xp_imul d_M_carry_338 ?_
      refine xp_iadd d_M_carry_339 ?_
      refine xp_aload_n d_M_carry_340 rfl ?_
      refine xp_iload d_M_carry_341 rfl ?_
      refine xq_V1r d_M_carry_343 g_M_carry_153 (x_mA hz) rfl rfl ?_
      refine c_M_dataCheck hm hf ?_
      refine ⟨_, rfl, ?_⟩
      refine xp_icmp_ne (tgt := 353) d_M_carry_346 (by decide) (fun c346 => ?_) (fun c346 => ?_)
      · skip
        refine xp_iconst (v := 0) d_M_carry_353 (by decide) ?_
        refine xp_istore d_M_carry_354 (by decide) ?_
        simp only [if_neg c297, if_pos c312, if_neg c346] at hp
        refine xp_loc (lv' := [(0, .ref 68), (5, .int (nI f)), (6, .int (nI (18 * f))), (7, .int v7), (8, .int 0)]) ⟨rfl, rfl, rfl, rfl, rfl, trivial⟩ ?_
        exact l_M_carry_356 hm hf hp
      · skip
        refine xp_iconst (v := 1) d_M_carry_349 (by decide) ?_
        refine xp_goto (tgt := 354) d_M_carry_350 (by decide) ?_
        refine xp_istore d_M_carry_354 (by decide) ?_
        simp only [if_neg c297, if_pos c312, if_pos c346] at hp
        refine xp_loc (lv' := [(0, .ref 68), (5, .int (nI f)), (6, .int (nI (18 * f))), (7, .int v7), (8, .int 1)]) ⟨rfl, rfl, rfl, rfl, rfl, trivial⟩ ?_
        exact l_M_carry_356 hm hf hp
set_option maxRecDepth 100000 in
set_option maxHeartbeats 1000000 in
theorem l_M_carry_234 (hm : x_mdl z P) {f : Nat} (hf : f ≤ 1) (hp : post (some (.int (s_arr J f (s_head J f) (s_rest J f)))) (z, x_mg I J, P)) : xp G M_M_carry 234 [(0, .ref 68), (5, .int (nI f)), (6, .int (nI (18 * f)))] [] (z, x_mg I J, P) 0 0 post := by
  obtain ⟨hz, m_powered, m_next, m_polled, m_count, m_tokens, m_input, m_setpoint, m_gainP, m_gainI, m_sum, m_level, m_taken, m_from, m_target, m_what, m_given, m_state, m_tries, m_got, m_error, m_reply, m_kept, m_whose, m_object, m_seen, m_due, m_notedNode, m_notedObject, m_notedValue, m_notices, m_bytes, m_length⟩ := id hm
  unfold s_head at hp
  refine xp_aload_n d_M_carry_234 rfl ?_
  refine xm_getR d_M_carry_235 fg_M_101 hz (by assumption) ?_
  refine xp_iload d_M_carry_238 rfl ?_
  refine xm_iaload d_M_carry_240 rfl (by decide) hz rfl (by omega) (by decide) ?_
  refine xp_bipush (v := 85) d_M_carry_241 (by decide) ?_
  refine xp_icmp_ne (tgt := 284) d_M_carry_243 (by decide) (fun c243 => ?_) (fun c243 => ?_)
  · skip
    refine xp_iconst (v := 0) d_M_carry_284 (by decide) ?_
    refine xp_istore d_M_carry_285 (by decide) ?_
    simp only [if_neg c243] at hp
    refine xp_loc (lv' := [(0, .ref 68), (5, .int (nI f)), (6, .int (nI (18 * f))), (7, .int 0)]) ⟨rfl, rfl, rfl, rfl, trivial⟩ ?_
    exact l_M_carry_287 hm hf hp
  · skip
    refine xp_aload_n d_M_carry_246 rfl ?_
    refine xm_getR d_M_carry_247 fg_M_101 hz (by assumption) ?_
    refine xp_iload d_M_carry_250 rfl ?_
    refine xp_iconst (v := 1) d_M_carry_252 (by decide) ?_
    refine xp_iadd d_M_carry_253 ?_
    refine xm_iaload d_M_carry_254 rfl (by decide) hz (x_addA (18 * f) 1) (by omega) (by decide) ?_
    refine xp_sipush (v := 255) d_M_carry_255 (by decide) ?_
    refine xp_icmp_ne (tgt := 284) d_M_carry_258 (by decide) (fun c258 => ?_) (fun c258 => ?_)
    · skip
      refine xp_iconst (v := 0) d_M_carry_284 (by decide) ?_
      refine xp_istore d_M_carry_285 (by decide) ?_
      simp only [if_pos c243, if_neg c258] at hp
      refine xp_loc (lv' := [(0, .ref 68), (5, .int (nI f)), (6, .int (nI (18 * f))), (7, .int 0)]) ⟨rfl, rfl, rfl, rfl, trivial⟩ ?_
      exact l_M_carry_287 hm hf hp
    · skip
      refine xp_aload_n d_M_carry_261 rfl ?_
      refine xm_getR d_M_carry_262 fg_M_101 hz (by assumption) ?_
      refine xp_iload d_M_carry_265 rfl ?_
      refine xp_bipush (v := 7) d_M_carry_267 (by decide) ?_
      refine xp_iadd d_M_carry_269 ?_
      refine xm_iaload d_M_carry_270 rfl (by decide) hz (x_addA (18 * f) 7) (by omega) (by decide) ?_
      refine xp_aload_n d_M_carry_271 rfl ?_
      refine xp_iload d_M_carry_272 rfl ?_
      refine xq_V1r d_M_carry_274 g_M_carry_150 (x_mA hz) rfl rfl ?_
      refine c_M_headCheck hm hf ?_
      refine ⟨_, rfl, ?_⟩
      refine xp_icmp_ne (tgt := 284) d_M_carry_277 (by decide) (fun c277 => ?_) (fun c277 => ?_)
      · skip
        refine xp_iconst (v := 0) d_M_carry_284 (by decide) ?_
        refine xp_istore d_M_carry_285 (by decide) ?_
        simp only [if_pos c243, if_pos c258, if_neg c277] at hp
        refine xp_loc (lv' := [(0, .ref 68), (5, .int (nI f)), (6, .int (nI (18 * f))), (7, .int 0)]) ⟨rfl, rfl, rfl, rfl, trivial⟩ ?_
        exact l_M_carry_287 hm hf hp
      · skip
        refine xp_iconst (v := 1) d_M_carry_280 (by decide) ?_
        refine xp_goto (tgt := 285) d_M_carry_281 (by decide) ?_
        refine xp_istore d_M_carry_285 (by decide) ?_
        simp only [if_pos c243, if_pos c258, if_pos c277] at hp
        refine xp_loc (lv' := [(0, .ref 68), (5, .int (nI f)), (6, .int (nI (18 * f))), (7, .int 1)]) ⟨rfl, rfl, rfl, rfl, trivial⟩ ?_
        exact l_M_carry_287 hm hf hp
set_option maxRecDepth 100000 in
set_option maxHeartbeats 1000000 in
theorem l_M_carry_185 (hm : x_mdl z P) {f s : Nat} (hf : f ≤ 1) (hs : s < 18) (es : J 68 43 = nI s) (hp : post (some (.int (s_arr (s_spl J f s) f (s_head (s_spl J f s) f) (s_rest (s_spl J f s) f)))) (z, x_mg I (s_spl J f s), P)) : xp G M_M_carry 185 [(0, .ref 68), (5, .int (nI f)), (6, .int (nI (18 * f)))] [] (z, x_mg I J, P) 0 0 post := by
  obtain ⟨hz, m_powered, m_next, m_polled, m_count, m_tokens, m_input, m_setpoint, m_gainP, m_gainI, m_sum, m_level, m_taken, m_from, m_target, m_what, m_given, m_state, m_tries, m_got, m_error, m_reply, m_kept, m_whose, m_object, m_seen, m_due, m_notedNode, m_notedObject, m_notedValue, m_notices, m_bytes, m_length⟩ := id hm
  unfold s_spl at hp
  refine xp_aload_n d_M_carry_185 rfl ?_
  refine xm_getI d_M_carry_186 fg_M_138 hz ?_
  refine xp_if_le (tgt := 234) d_M_carry_189 (by decide) (fun c189 => ?_) (fun c189 => ?_)
  · skip
    simp only [if_pos c189] at hp
    refine xp_loc (lv' := [(0, .ref 68), (5, .int (nI f)), (6, .int (nI (18 * f)))]) ⟨rfl, rfl, rfl, trivial⟩ ?_
    exact l_M_carry_234 hm hf hp
  · skip
    refine xp_aload_n d_M_carry_192 rfl ?_
    refine xm_getI d_M_carry_193 fg_M_132 hz ?_
    refine xp_iload d_M_carry_196 rfl ?_
    refine xp_icmp_ne (tgt := 234) d_M_carry_198 (by decide) (fun c198 => ?_) (fun c198 => ?_)
    · skip
      simp only [if_neg c189, if_neg c198] at hp
      refine xp_loc (lv' := [(0, .ref 68), (5, .int (nI f)), (6, .int (nI (18 * f)))]) ⟨rfl, rfl, rfl, trivial⟩ ?_
      exact l_M_carry_234 hm hf hp
    · skip
      refine xp_aload_n d_M_carry_201 rfl ?_
      refine xm_getI d_M_carry_202 fg_M_135 hz ?_
      refine xp_aload_n d_M_carry_205 rfl ?_
      refine xm_getR d_M_carry_206 fg_M_104 hz (by assumption) ?_
      refine xp_iload d_M_carry_209 rfl ?_
      refine xm_iaload d_M_carry_211 rfl (by decide) hz rfl (by omega) (by decide) ?_
      refine xp_icmp_ge (tgt := 234) d_M_carry_212 (by decide) (fun c212 => ?_) (fun c212 => ?_)
      · skip
        simp only [if_neg c189, if_pos c198, if_pos c212] at hp
        refine xp_loc (lv' := [(0, .ref 68), (5, .int (nI f)), (6, .int (nI (18 * f)))]) ⟨rfl, rfl, rfl, trivial⟩ ?_
        exact l_M_carry_234 hm hf hp
      · skip
        refine xp_aload_n d_M_carry_215 rfl ?_
        refine xm_getR d_M_carry_216 fg_M_101 hz (by assumption) ?_
        refine xp_iload d_M_carry_219 rfl ?_
        refine xp_aload_n d_M_carry_221 rfl ?_
        refine xm_getI d_M_carry_222 fg_M_135 hz ?_
        refine xp_iadd d_M_carry_225 ?_
        refine xp_dup2 d_M_carry_226 rfl rfl ?_
        refine xm_iaload d_M_carry_227 rfl (by decide) hz (show nI (18 * f) + J 68 43 = nI (18 * f + s) by rw [es, x_addA]) (by omega) (by decide) ?_
        refine xp_aload_n d_M_carry_228 rfl ?_
        refine xm_getI d_M_carry_229 fg_M_138 hz ?_
        refine xp_ixor d_M_carry_232 ?_
        refine xm_iastore d_M_carry_233 rfl (by decide) hz (show nI (18 * f) + J 68 43 = nI (18 * f + s) by rw [es, x_addA]) (by omega) (by decide) ?_
        simp only [if_neg c189, if_pos c198, if_neg c212] at hp
        refine xp_loc (lv' := [(0, .ref 68), (5, .int (nI f)), (6, .int (nI (18 * f)))]) ⟨rfl, rfl, rfl, trivial⟩ ?_
        exact l_M_carry_234 hm hf hp
set_option maxRecDepth 100000 in
set_option maxHeartbeats 1000000 in
theorem c_M_carry (hm : x_mdl z P) {ty to so d : Int32} {f s : Nat} (hf : f ≤ 1) (ef : J 68 39 = nI f) (hs : s < 18) (es : J 68 43 = nI s) (hp : post (some (.int (s_caV J f s ty to so d))) (z, x_mg I (s_caJ J f s ty to so d), P)) : xp G M_M_carry 0 [(0, .ref 68), (1, .int ty), (2, .int to), (3, .int so), (4, .int d)] [] (z, x_mg I J, P) 0 0 post := by
  obtain ⟨hz, m_powered, m_next, m_polled, m_count, m_tokens, m_input, m_setpoint, m_gainP, m_gainI, m_sum, m_level, m_taken, m_from, m_target, m_what, m_given, m_state, m_tries, m_got, m_error, m_reply, m_kept, m_whose, m_object, m_seen, m_due, m_notedNode, m_notedObject, m_notedValue, m_notices, m_bytes, m_length⟩ := id hm
  rcases Classical.em (d = 0) with cd | cd
  · skip
    refine xp_aload_n d_M_carry_0 rfl ?_
    refine xm_getI d_M_carry_1 fg_M_147 hz ?_
    rw [ef]
    refine xp_istore d_M_carry_4 (by decide) ?_
    refine xp_aload_n d_M_carry_6 rfl ?_
    refine xp_dup d_M_carry_7 rfl ?_
    refine xm_getI d_M_carry_8 fg_M_147 hz ?_
    rw [ef]
    refine xp_iconst (v := 1) d_M_carry_11 (by decide) ?_
    refine xp_iadd d_M_carry_12 ?_
    refine xm_putI d_M_carry_13 f_M_147 hz ?_
    refine xp_bipush (v := 18) d_M_carry_16 (by decide) ?_
    refine xp_iload d_M_carry_18 rfl ?_
    refine xp_imul d_M_carry_20 ?_
    rw [show (18 : Int32) * nI f = nI (18 * f) from pk_mul 18 f]
    refine xp_istore d_M_carry_21 (by decide) ?_
    refine xp_aload_n d_M_carry_23 rfl ?_
    refine xm_getR d_M_carry_24 fg_M_101 hz (by assumption) ?_
    refine xp_iload d_M_carry_27 rfl ?_
    refine xp_bipush (v := 85) d_M_carry_29 (by decide) ?_
    refine xm_iastore d_M_carry_31 rfl (by decide) hz rfl (by omega) (by decide) ?_
    refine xp_aload_n d_M_carry_32 rfl ?_
    refine xm_getR d_M_carry_33 fg_M_101 hz (by assumption) ?_
    refine xp_iload d_M_carry_36 rfl ?_
    refine xp_iconst (v := 1) d_M_carry_38 (by decide) ?_
    refine xp_iadd d_M_carry_39 ?_
    refine xp_sipush (v := 255) d_M_carry_40 (by decide) ?_
    refine xm_iastore d_M_carry_43 rfl (by decide) hz (x_addA (18 * f) 1) (by omega) (by decide) ?_
    refine xp_aload_n d_M_carry_44 rfl ?_
    refine xm_getR d_M_carry_45 fg_M_101 hz (by assumption) ?_
    refine xp_iload d_M_carry_48 rfl ?_
    refine xp_iconst (v := 2) d_M_carry_50 (by decide) ?_
    refine xp_iadd d_M_carry_51 ?_
    refine xp_iload_n d_M_carry_52 rfl ?_
    refine xm_iastore d_M_carry_53 rfl (by decide) hz (x_addA (18 * f) 2) (by omega) (by decide) ?_
    refine xp_aload_n d_M_carry_54 rfl ?_
    refine xm_getR d_M_carry_55 fg_M_101 hz (by assumption) ?_
    refine xp_iload d_M_carry_58 rfl ?_
    refine xp_iconst (v := 3) d_M_carry_60 (by decide) ?_
    refine xp_iadd d_M_carry_61 ?_
    refine xp_iload_n d_M_carry_62 rfl ?_
    refine xm_iastore d_M_carry_63 rfl (by decide) hz (x_addA (18 * f) 3) (by omega) (by decide) ?_
    refine xp_aload_n d_M_carry_64 rfl ?_
    refine xm_getR d_M_carry_65 fg_M_101 hz (by assumption) ?_
    refine xp_iload d_M_carry_68 rfl ?_
    refine xp_iconst (v := 4) d_M_carry_70 (by decide) ?_
    refine xp_iadd d_M_carry_71 ?_
    refine xp_iload_n d_M_carry_72 rfl ?_
    refine xm_iastore d_M_carry_73 rfl (by decide) hz (x_addA (18 * f) 4) (by omega) (by decide) ?_
    refine xp_aload_n d_M_carry_74 rfl ?_
    refine xm_getR d_M_carry_75 fg_M_101 hz (by assumption) ?_
    refine xp_iload d_M_carry_78 rfl ?_
    refine xp_iconst (v := 5) d_M_carry_80 (by decide) ?_
    refine xp_iadd d_M_carry_81 ?_
    refine xp_iconst (v := 0) d_M_carry_82 (by decide) ?_
    refine xm_iastore d_M_carry_83 rfl (by decide) hz (x_addA (18 * f) 5) (by omega) (by decide) ?_
    refine xp_aload_n d_M_carry_84 rfl ?_
    refine xm_getR d_M_carry_85 fg_M_101 hz (by assumption) ?_
    refine xp_iload d_M_carry_88 rfl ?_
    refine xp_bipush (v := 6) d_M_carry_90 (by decide) ?_
    refine xp_iadd d_M_carry_92 ?_
    refine xp_iload d_M_carry_93 rfl ?_
    refine xp_if_eq (tgt := 103) d_M_carry_95 (by decide) (fun c95 => ?_) (fun c95 => absurd cd c95)
    refine xp_iconst (v := 0) d_M_carry_103 (by decide) ?_
    refine xm_iastore d_M_carry_104 rfl (by decide) hz (x_addA (18 * f) 6) (by omega) (by decide) ?_
    refine xp_aload_n d_M_carry_105 rfl ?_
    refine xm_getR d_M_carry_106 fg_M_101 hz (by assumption) ?_
    refine xp_iload d_M_carry_109 rfl ?_
    refine xp_bipush (v := 7) d_M_carry_111 (by decide) ?_
    refine xp_iadd d_M_carry_113 ?_
    refine xp_aload_n d_M_carry_114 rfl ?_
    refine xp_iload d_M_carry_115 rfl ?_
    refine xq_V1r d_M_carry_117 g_M_carry_150 (x_mA hz) rfl rfl ?_
    refine c_M_headCheck hm hf ?_
    refine ⟨_, rfl, ?_⟩
    refine xm_iastore d_M_carry_120 rfl (by decide) hz (x_addA (18 * f) 7) (by omega) (by decide) ?_
    refine xp_aload_n d_M_carry_121 rfl ?_
    refine xm_getR d_M_carry_122 fg_M_104 hz (by assumption) ?_
    refine xp_iload d_M_carry_125 rfl ?_
    refine xp_iload d_M_carry_127 rfl ?_
    refine xp_if_eq (tgt := 137) d_M_carry_129 (by decide) (fun c129 => ?_) (fun c129 => absurd cd c129)
    refine xp_bipush (v := 8) d_M_carry_137 (by decide) ?_
    refine xm_iastore d_M_carry_139 rfl (by decide) hz rfl (by omega) (by decide) ?_
    refine xp_iload d_M_carry_140 rfl ?_
    refine xp_if_eq (tgt := 185) d_M_carry_142 (by decide) (fun c142 => ?_) (fun c142 => absurd cd c142)
    refine xp_loc (lv' := [(0, .ref 68), (5, .int (nI f)), (6, .int (nI (18 * f)))]) ⟨rfl, rfl, rfl, trivial⟩ ?_
    unfold s_caV s_caJ at hp
    rw [show s_hd J f ty to so d = s_h8 J f ty to so 0 8 from if_pos cd] at hp
    refine l_M_carry_185 (J := s_h8 J f ty to so 0 8) hm hf hs ?_ hp
    unfold s_h8 s_h7
    repeat rw [x_up_ne (by omega)]
    exact es
  · skip
    refine xp_aload_n d_M_carry_0 rfl ?_
    refine xm_getI d_M_carry_1 fg_M_147 hz ?_
    rw [ef]
    refine xp_istore d_M_carry_4 (by decide) ?_
    refine xp_aload_n d_M_carry_6 rfl ?_
    refine xp_dup d_M_carry_7 rfl ?_
    refine xm_getI d_M_carry_8 fg_M_147 hz ?_
    rw [ef]
    refine xp_iconst (v := 1) d_M_carry_11 (by decide) ?_
    refine xp_iadd d_M_carry_12 ?_
    refine xm_putI d_M_carry_13 f_M_147 hz ?_
    refine xp_bipush (v := 18) d_M_carry_16 (by decide) ?_
    refine xp_iload d_M_carry_18 rfl ?_
    refine xp_imul d_M_carry_20 ?_
    rw [show (18 : Int32) * nI f = nI (18 * f) from pk_mul 18 f]
    refine xp_istore d_M_carry_21 (by decide) ?_
    refine xp_aload_n d_M_carry_23 rfl ?_
    refine xm_getR d_M_carry_24 fg_M_101 hz (by assumption) ?_
    refine xp_iload d_M_carry_27 rfl ?_
    refine xp_bipush (v := 85) d_M_carry_29 (by decide) ?_
    refine xm_iastore d_M_carry_31 rfl (by decide) hz rfl (by omega) (by decide) ?_
    refine xp_aload_n d_M_carry_32 rfl ?_
    refine xm_getR d_M_carry_33 fg_M_101 hz (by assumption) ?_
    refine xp_iload d_M_carry_36 rfl ?_
    refine xp_iconst (v := 1) d_M_carry_38 (by decide) ?_
    refine xp_iadd d_M_carry_39 ?_
    refine xp_sipush (v := 255) d_M_carry_40 (by decide) ?_
    refine xm_iastore d_M_carry_43 rfl (by decide) hz (x_addA (18 * f) 1) (by omega) (by decide) ?_
    refine xp_aload_n d_M_carry_44 rfl ?_
    refine xm_getR d_M_carry_45 fg_M_101 hz (by assumption) ?_
    refine xp_iload d_M_carry_48 rfl ?_
    refine xp_iconst (v := 2) d_M_carry_50 (by decide) ?_
    refine xp_iadd d_M_carry_51 ?_
    refine xp_iload_n d_M_carry_52 rfl ?_
    refine xm_iastore d_M_carry_53 rfl (by decide) hz (x_addA (18 * f) 2) (by omega) (by decide) ?_
    refine xp_aload_n d_M_carry_54 rfl ?_
    refine xm_getR d_M_carry_55 fg_M_101 hz (by assumption) ?_
    refine xp_iload d_M_carry_58 rfl ?_
    refine xp_iconst (v := 3) d_M_carry_60 (by decide) ?_
    refine xp_iadd d_M_carry_61 ?_
    refine xp_iload_n d_M_carry_62 rfl ?_
    refine xm_iastore d_M_carry_63 rfl (by decide) hz (x_addA (18 * f) 3) (by omega) (by decide) ?_
    refine xp_aload_n d_M_carry_64 rfl ?_
    refine xm_getR d_M_carry_65 fg_M_101 hz (by assumption) ?_
    refine xp_iload d_M_carry_68 rfl ?_
    refine xp_iconst (v := 4) d_M_carry_70 (by decide) ?_
    refine xp_iadd d_M_carry_71 ?_
    refine xp_iload_n d_M_carry_72 rfl ?_
    refine xm_iastore d_M_carry_73 rfl (by decide) hz (x_addA (18 * f) 4) (by omega) (by decide) ?_
    refine xp_aload_n d_M_carry_74 rfl ?_
    refine xm_getR d_M_carry_75 fg_M_101 hz (by assumption) ?_
    refine xp_iload d_M_carry_78 rfl ?_
    refine xp_iconst (v := 5) d_M_carry_80 (by decide) ?_
    refine xp_iadd d_M_carry_81 ?_
    refine xp_iconst (v := 0) d_M_carry_82 (by decide) ?_
    refine xm_iastore d_M_carry_83 rfl (by decide) hz (x_addA (18 * f) 5) (by omega) (by decide) ?_
    refine xp_aload_n d_M_carry_84 rfl ?_
    refine xm_getR d_M_carry_85 fg_M_101 hz (by assumption) ?_
    refine xp_iload d_M_carry_88 rfl ?_
    refine xp_bipush (v := 6) d_M_carry_90 (by decide) ?_
    refine xp_iadd d_M_carry_92 ?_
    refine xp_iload d_M_carry_93 rfl ?_
    refine xp_if_eq (tgt := 103) d_M_carry_95 (by decide) (fun c95 => absurd c95 cd) (fun c95 => ?_)
    refine xp_bipush (v := 8) d_M_carry_98 (by decide) ?_
    refine xp_goto (tgt := 104) d_M_carry_100 (by decide) ?_
    refine xm_iastore d_M_carry_104 rfl (by decide) hz (x_addA (18 * f) 6) (by omega) (by decide) ?_
    refine xp_aload_n d_M_carry_105 rfl ?_
    refine xm_getR d_M_carry_106 fg_M_101 hz (by assumption) ?_
    refine xp_iload d_M_carry_109 rfl ?_
    refine xp_bipush (v := 7) d_M_carry_111 (by decide) ?_
    refine xp_iadd d_M_carry_113 ?_
    refine xp_aload_n d_M_carry_114 rfl ?_
    refine xp_iload d_M_carry_115 rfl ?_
    refine xq_V1r d_M_carry_117 g_M_carry_150 (x_mA hz) rfl rfl ?_
    refine c_M_headCheck hm hf ?_
    refine ⟨_, rfl, ?_⟩
    refine xm_iastore d_M_carry_120 rfl (by decide) hz (x_addA (18 * f) 7) (by omega) (by decide) ?_
    refine xp_aload_n d_M_carry_121 rfl ?_
    refine xm_getR d_M_carry_122 fg_M_104 hz (by assumption) ?_
    refine xp_iload d_M_carry_125 rfl ?_
    refine xp_iload d_M_carry_127 rfl ?_
    refine xp_if_eq (tgt := 137) d_M_carry_129 (by decide) (fun c129 => absurd c129 cd) (fun c129 => ?_)
    refine xp_bipush (v := 18) d_M_carry_132 (by decide) ?_
    refine xp_goto (tgt := 139) d_M_carry_134 (by decide) ?_
    refine xm_iastore d_M_carry_139 rfl (by decide) hz rfl (by omega) (by decide) ?_
    refine xp_iload d_M_carry_140 rfl ?_
    refine xp_if_eq (tgt := 185) d_M_carry_142 (by decide) (fun c142 => absurd c142 cd) (fun c142 => ?_)
    refine xp_aload_n d_M_carry_145 rfl ?_
    refine xp_iload d_M_carry_146 rfl ?_
    refine xq_V1r d_M_carry_148 g_M_carry_153 (x_mA hz) rfl rfl ?_
    refine c_M_dataCheck hm hf ?_
    refine ⟨_, rfl, ?_⟩
    refine xp_istore d_M_carry_151 (by decide) ?_
    refine xp_aload_n d_M_carry_153 rfl ?_
    refine xm_getR d_M_carry_154 fg_M_101 hz (by assumption) ?_
    refine xp_iload d_M_carry_157 rfl ?_
    refine xp_bipush (v := 16) d_M_carry_159 (by decide) ?_
    refine xp_iadd d_M_carry_161 ?_
    refine xp_iload d_M_carry_162 rfl ?_
    refine xp_sipush (v := 256) d_M_carry_164 (by decide) ?_
    refine xp_irem d_M_carry_167 (by decide) ?_
    refine xm_iastore d_M_carry_168 rfl (by decide) hz (x_addA (18 * f) 16) (by omega) (by decide) ?_
    refine xp_aload_n d_M_carry_169 rfl ?_
    refine xm_getR d_M_carry_170 fg_M_101 hz (by assumption) ?_
    refine xp_iload d_M_carry_173 rfl ?_
    refine xp_bipush (v := 17) d_M_carry_175 (by decide) ?_
    refine xp_iadd d_M_carry_177 ?_
    refine xp_iload d_M_carry_178 rfl ?_
    refine xp_sipush (v := 256) d_M_carry_180 (by decide) ?_
    refine xp_idiv d_M_carry_183 (by decide) ?_
    refine xm_iastore d_M_carry_184 rfl (by decide) hz (x_addA (18 * f) 17) (by omega) (by decide) ?_
    refine xp_loc (lv' := [(0, .ref 68), (5, .int (nI f)), (6, .int (nI (18 * f)))]) ⟨rfl, rfl, rfl, trivial⟩ ?_
    unfold s_caV s_caJ at hp
    rw [show s_hd J f ty to so d = _ from if_neg cd] at hp
    refine l_M_carry_185 (J := x_up (x_up (s_h8 J f ty to so 8 18) 99 (18 * f + 16) (s_dc (s_h8 J f ty to so 8 18) f - s_dc (s_h8 J f ty to so 8 18) f / 256 * 256)) 99 (18 * f + 17) (s_dc (s_h8 J f ty to so 8 18) f / 256)) hm hf hs ?_ hp
    unfold s_h8 s_h7
    repeat rw [x_up_ne (by omega)]
    exact es
end partA4
