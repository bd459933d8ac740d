/-! the model: its memory J is the rows 68 .. 100, the rest is I -/
def x_mg (I J : xI) : xI := fun a => if 68 ≤ a ∧ a ≤ 100 then J a else I a
theorem x_mg_in {I J : xI} {a : Nat} (h : 68 ≤ a ∧ a ≤ 100) : x_mg I J a = J a := if_pos h
theorem x_mg_out {I J : xI} {a : Nat} (h : a < 68 ∨ 100 < a) : x_mg I J a = I a := if_neg (by omega)
theorem x_up_mg {I J : xI} {a k : Nat} {v : Int32} (h : 68 ≤ a ∧ a ≤ 100) : x_up (x_mg I J) a k v = x_mg I (x_up J a k v) := by
  funext b
  unfold x_up x_mg
  by_cases hb : b = a
  · subst hb
    simp [h]
  · simp [hb]
def x_mdl (z : Nat) (P : xP) : Prop := 101 ≤ z ∧ P 68 0 = some 69 ∧ P 68 1 = some 70 ∧ P 68 2 = some 71 ∧ P 68 3 = some 72 ∧ P 68 4 = some 73 ∧ P 68 5 = some 74 ∧ P 68 6 = some 75 ∧ P 68 7 = some 76 ∧ P 68 8 = some 77 ∧ P 68 9 = some 78 ∧ P 68 10 = some 79 ∧ P 68 11 = some 80 ∧ P 68 13 = some 81 ∧ P 68 14 = some 82 ∧ P 68 15 = some 83 ∧ P 68 16 = some 84 ∧ P 68 17 = some 85 ∧ P 68 18 = some 86 ∧ P 68 19 = some 87 ∧ P 68 20 = some 88 ∧ P 68 21 = some 89 ∧ P 68 23 = some 90 ∧ P 68 24 = some 91 ∧ P 68 25 = some 92 ∧ P 68 26 = some 93 ∧ P 68 27 = some 94 ∧ P 68 28 = some 95 ∧ P 68 29 = some 96 ∧ P 68 30 = some 97 ∧ P 68 31 = some 98 ∧ P 68 40 = some 99 ∧ P 68 41 = some 100
theorem x_mA {z : Nat} (hz : 101 ≤ z) : x_at 7 z 68 := ⟨rfl, by omega, by omega⟩
section xm
variable {G : xG} {M : xM} {pc : Nat} {lv : List (Nat × Value)} {st : List Value} {z : Nat} {I J : xI} {P : xP} {bc bs idx : Nat} {post : Option Value → xH → Prop}
theorem xm_getI {k : Nat} (hd : decode M.2.1 pc = .ok (.getfield idx, 3)) (hf : x_fgI M.1.cls idx 7 k) (hz : 101 ≤ z) (kk : xp G M (pc + 3) lv (.int (J 68 k) :: st) (z, x_mg I J, P) bc bs post) : xp G M pc lv (.ref 68 :: st) (z, x_mg I J, P) bc bs post :=
  xq_getI hd hf (x_mA hz) (by rw [x_mg_in (by omega)]; exact kk)
theorem xm_getR {k b : Nat} (hd : decode M.2.1 pc = .ok (.getfield idx, 3)) (hf : x_fgR M.1.cls idx 7 k) (hz : 101 ≤ z) (hp : P 68 k = some b) (kk : xp G M (pc + 3) lv (.ref b :: st) (z, x_mg I J, P) bc bs post) : xp G M pc lv (.ref 68 :: st) (z, x_mg I J, P) bc bs post :=
  xq_getR hd hf (x_mA hz) hp kk
theorem xm_putI {k : Nat} {v : Int32} (hd : decode M.2.1 pc = .ok (.putfield idx, 3)) (hf : x_fI M.1.cls idx 7 k false .int) (hz : 101 ≤ z) (kk : xp G M (pc + 3) lv st (z, x_mg I (x_up J 68 k v), P) bc bs post) : xp G M pc lv (.int v :: .ref 68 :: st) (z, x_mg I J, P) bc bs post :=
  xq_putI hd hf (x_mA hz) (by rw [x_up_mg (by omega)]; exact kk)
theorem xm_iaload {a n j : Nat} {i : Int32} (hd : decode M.2.1 pc = .ok (.iaload, 1)) (ht : xTY a = (100, n)) (ha : 68 ≤ a ∧ a ≤ 100) (hz : 101 ≤ z) (hi : i = nI j) (hj : j < n) (hn : n < 2 ^ 31) (kk : xp G M (pc + 1) lv (.int (J a j) :: st) (z, x_mg I J, P) bc bs post) : xp G M pc lv (.int i :: .ref a :: st) (z, x_mg I J, P) bc bs post :=
  xq_iaload hd ⟨ht, by omega, by omega⟩ hi hj hn (by rw [x_mg_in ha]; exact kk)
theorem xm_baload {a n j : Nat} {i : Int32} (hd : decode M.2.1 pc = .ok (.baload, 1)) (ht : xTY a = (101, n)) (ha : 68 ≤ a ∧ a ≤ 100) (hz : 101 ≤ z) (hi : i = nI j) (hj : j < n) (hn : n < 2 ^ 31) (kk : xp G M (pc + 1) lv (.int (J a j) :: st) (z, x_mg I J, P) bc bs post) : xp G M pc lv (.int i :: .ref a :: st) (z, x_mg I J, P) bc bs post :=
  xq_baload hd ⟨ht, by omega, by omega⟩ hi hj hn (by rw [x_mg_in ha]; exact kk)
theorem xm_iastore {a n j : Nat} {i x : Int32} (hd : decode M.2.1 pc = .ok (.iastore, 1)) (ht : xTY a = (100, n)) (ha : 68 ≤ a ∧ a ≤ 100) (hz : 101 ≤ z) (hi : i = nI j) (hj : j < n) (hn : n < 2 ^ 31) (kk : xp G M (pc + 1) lv st (z, x_mg I (x_up J a j x), P) bc bs post) : xp G M pc lv (.int x :: .int i :: .ref a :: st) (z, x_mg I J, P) bc bs post :=
  xq_iastore hd ⟨ht, by omega, by omega⟩ hi hj hn (by rw [x_up_mg ha]; exact kk)
theorem xm_bastore {a n j : Nat} {i x : Int32} (hd : decode M.2.1 pc = .ok (.bastore, 1)) (ht : xTY a = (101, n)) (ha : 68 ≤ a ∧ a ≤ 100) (hz : 101 ≤ z) (hi : i = nI j) (hj : j < n) (hn : n < 2 ^ 31) (hx : x = 0 ∨ x = 1) (kk : xp G M (pc + 1) lv st (z, x_mg I (x_up J a j x), P) bc bs post) : xp G M pc lv (.int x :: .int i :: .ref a :: st) (z, x_mg I J, P) bc bs post :=
  xq_bastore hd ⟨ht, by omega, by omega⟩ hi hj hn hx (by rw [x_up_mg ha]; exact kk)
end xm
theorem x_mulA (a n l : Nat) : nI a * nI n + nI l = nI (a * n + l) := by rw [pk_mul, nI_add]
theorem x_addA (a b : Nat) : nI a + nI b = nI (a + b) := nI_add a b
def s_isN (n : Int32) : Int32 := if n < 0 then 0 else if 6 ≤ n then 0 else 1
def s_out (v lo hi : Int32) : Int32 := if v < lo then 1 else if v ≤ hi then 0 else 1
def s_held (x b : Int32) : Int32 := if -b ≤ x then (if x ≤ b then x else b) else -b
def s_beh (n : Int32) : Int32 := n + 1 - (n + 1) / 6 * 6
def s_quo (a b : Int32) : Int32 := if a < 0 then -((b - 1 - a) / b) else a / b
theorem s_isN_01 (n : Int32) : s_isN n = 0 ∨ s_isN n = 1 := by
  unfold s_isN
  by_cases h1 : n < 0
  · exact Or.inl (if_pos h1)
  · rw [if_neg h1]
    by_cases h2 : 6 ≤ n
    · exact Or.inl (if_pos h2)
    · exact Or.inr (if_neg h2)
theorem s_out_01 (v lo hi : Int32) : s_out v lo hi = 0 ∨ s_out v lo hi = 1 := by
  unfold s_out
  by_cases h1 : v < lo
  · exact Or.inr (if_pos h1)
  · rw [if_neg h1]
    by_cases h2 : v ≤ hi
    · exact Or.inl (if_pos h2)
    · exact Or.inr (if_neg h2)
theorem s_isN_ix {n : Int32} (h : ¬ s_isN n = 0) : ∃ j : Nat, j ≤ 5 ∧ n = nI j := by
  unfold s_isN at h
  have h1 : ¬ n < 0 := fun q => h (if_pos q)
  rw [if_neg h1] at h
  have h2 : ¬ (6 : Int32) ≤ n := fun q => h (if_pos q)
  obtain ⟨j, hj, rfl⟩ := nI_of h1
  exact ⟨j, by have := Nat.lt_of_not_le (fun q => h2 (nI_le (a := 6) q hj)); omega, rfl⟩
theorem s_out_ix {x a b : Int32} {A B : Nat} (ha : a.toInt = A) (hb : b.toInt = B) (h : s_out x a b = 0) : ∃ j : Nat, A ≤ j ∧ j ≤ B ∧ x = nI j := by
  unfold s_out at h
  by_cases h1 : x < a
  · rw [if_pos h1] at h
    exact absurd h (by decide)
  rw [if_neg h1] at h
  by_cases h2 : x ≤ b
  · rw [Int32.lt_iff_toInt_lt, ha] at h1
    rw [Int32.le_iff_toInt_le, hb] at h2
    have h0 : ¬ x < 0 := by
      rw [Int32.lt_iff_toInt_lt, Int32.toInt_zero]
      omega
    obtain ⟨j, hj, rfl⟩ := nI_of h0
    rw [nI_toInt hj] at h1 h2
    exact ⟨j, by omega, by omega, rfl⟩
  · rw [if_neg h2] at h
    exact absurd h (by decide)
def s_wait (J : xI) (n : Int32) : Nat → Int32
  | 0 => 0
  | k + 1 => if J 81 k = n then (if J 85 k = 0 then s_wait J n k + 1 else s_wait J n k) else s_wait J n k
def s_sof (J : xI) (n : Int32) : Nat → Int32
  | 0 => 0
  | k + 1 => if J 90 k = n then s_sof J n k + 1 else s_sof J n k
def s_oof (J : xI) (n : Nat) : Nat → Nat → Int32
  | 0, _ => 0
  | k + 1, l => if J 80 (17 * n + l) = 0 then s_oof J n k (l + 1) else J 79 (17 * n + l)
def s_val (J : xI) (n ob : Int32) : Int32 := if s_isN n = 0 then 0 else if ob = 0 then J 74 (k_tn n) else if ob = 1 then s_oof J (k_tn n) 16 1 else if ob = 2 then J 75 (k_tn n) else 0
section part100
variable {G : xG} {z : Nat} {I J : xI} {P : xP} {post : Option Value → xH → Prop} {h0 : xH}
set_option maxRecDepth 100000 in
set_option maxHeartbeats 1000000 in
theorem c_M_isNode {n : Int32} (hp : post (some (.int (s_isN n))) h0) : xp G M_M_isNode 0 [(0, .int n)] [] h0 0 0 post := by
  unfold s_isN at hp
  refine xp_iload_n d_M_isNode_0 rfl ?_
  refine xp_if_lt (tgt := 14) d_M_isNode_1 (by decide) (fun c1 => ?_) (fun c1 => ?_)
  · skip
    refine xp_iconst (v := 0) d_M_isNode_14 (by decide) ?_
    refine xp_ireturn d_M_isNode_15 rfl (x_bit (by first | exact Or.inl rfl | exact Or.inr rfl | assumption)).1 ?_
    simp only [if_pos c1] at hp
    exact hp
  · skip
    refine xp_iload_n d_M_isNode_4 rfl ?_
    refine xp_bipush (v := 6) d_M_isNode_5 (by decide) ?_
    refine xp_icmp_ge (tgt := 14) d_M_isNode_7 (by decide) (fun c7 => ?_) (fun c7 => ?_)
    · skip
      refine xp_iconst (v := 0) d_M_isNode_14 (by decide) ?_
      refine xp_ireturn d_M_isNode_15 rfl (x_bit (by first | exact Or.inl rfl | exact Or.inr rfl | assumption)).1 ?_
      simp only [if_neg c1, if_pos c7] at hp
      exact hp
    · skip
      refine xp_iconst (v := 1) d_M_isNode_10 (by decide) ?_
      refine xp_goto (tgt := 15) d_M_isNode_11 (by decide) ?_
      refine xp_ireturn d_M_isNode_15 rfl (x_bit (by first | exact Or.inl rfl | exact Or.inr rfl | assumption)).1 ?_
      simp only [if_neg c1, if_neg c7] at hp
      exact hp
set_option maxRecDepth 100000 in
set_option maxHeartbeats 1000000 in
theorem c_M_outside {v lo hi : Int32} (hp : post (some (.int (s_out v lo hi))) h0) : xp G M_M_outside 0 [(0, .int v), (1, .int lo), (2, .int hi)] [] h0 0 0 post := by
  unfold s_out at hp
  refine xp_iload_n d_M_outside_0 rfl ?_
  refine xp_iload_n d_M_outside_1 rfl ?_
  refine xp_icmp_lt (tgt := 10) d_M_outside_2 (by decide) (fun c2 => ?_) (fun c2 => ?_)
  · skip
    refine xp_iconst (v := 1) d_M_outside_10 (by decide) ?_
    refine xp_goto (tgt := 15) d_M_outside_11 (by decide) ?_
    refine xp_ireturn d_M_outside_15 rfl (x_bit (by first | exact Or.inl rfl | exact Or.inr rfl | assumption)).1 ?_
    simp only [if_pos c2] at hp
    exact hp
  · skip
    refine xp_iload_n d_M_outside_5 rfl ?_
    refine xp_iload_n d_M_outside_6 rfl ?_
    refine xp_icmp_le (tgt := 14) d_M_outside_7 (by decide) (fun c7 => ?_) (fun c7 => ?_)
    · skip
      refine xp_iconst (v := 0) d_M_outside_14 (by decide) ?_
      refine xp_ireturn d_M_outside_15 rfl (x_bit (by first | exact Or.inl rfl | exact Or.inr rfl | assumption)).1 ?_
      simp only [if_neg c2, if_pos c7] at hp
      exact hp
    · skip
      refine xp_iconst (v := 1) d_M_outside_10 (by decide) ?_
      refine xp_goto (tgt := 15) d_M_outside_11 (by decide) ?_
      refine xp_ireturn d_M_outside_15 rfl (x_bit (by first | exact Or.inl rfl | exact Or.inr rfl | assumption)).1 ?_
      simp only [if_neg c2, if_neg c7] at hp
      exact hp
set_option maxRecDepth 100000 in
set_option maxHeartbeats 1000000 in
theorem c_M_held {x b : Int32} (hp : post (some (.int (s_held x b))) h0) : xp G M_M_held 0 [(0, .int x), (1, .int b)] [] h0 0 0 post := by
  unfold s_held at hp
  refine xp_iload_n d_M_held_0 rfl ?_
  refine xp_iload_n d_M_held_1 rfl ?_
  refine xp_ineg d_M_held_2 ?_
  refine xp_icmp_ge (tgt := 11) d_M_held_3 (by decide) (fun c3 => ?_) (fun c3 => ?_)
  · skip
    refine xp_iload_n d_M_held_11 rfl ?_
    refine xp_iload_n d_M_held_12 rfl ?_
    refine xp_icmp_le (tgt := 20) d_M_held_13 (by decide) (fun c13 => ?_) (fun c13 => ?_)
    · skip
      refine xp_iload_n d_M_held_20 rfl ?_
      refine xp_ireturn d_M_held_21 rfl rfl ?_
      simp only [if_pos c3, if_pos c13] at hp
      exact hp
    · skip
      refine xp_iload_n d_M_held_16 rfl ?_
      refine xp_goto (tgt := 21) d_M_held_17 (by decide) ?_
      refine xp_ireturn d_M_held_21 rfl rfl ?_
      simp only [if_pos c3, if_neg c13] at hp
      exact hp
  · skip
    refine xp_iload_n d_M_held_6 rfl ?_
    refine xp_ineg d_M_held_7 ?_
    refine xp_goto (tgt := 21) d_M_held_8 (by decide) ?_
    refine xp_ireturn d_M_held_21 rfl rfl ?_
    simp only [if_neg c3] at hp
    exact hp
set_option maxRecDepth 100000 in
set_option maxHeartbeats 1000000 in
theorem c_M_behind {n : Int32} (hp : post (some (.int (s_beh n))) h0) : xp G M_M_behind 0 [(0, .int n)] [] h0 0 0 post := by
  refine xp_iload_n d_M_behind_0 rfl ?_
  refine xp_iconst (v := 1) d_M_behind_1 (by decide) ?_
  refine xp_iadd d_M_behind_2 ?_
  refine xp_bipush (v := 6) d_M_behind_3 (by decide) ?_
  refine xp_irem d_M_behind_5 (by decide) ?_
  refine xp_ireturn d_M_behind_6 rfl rfl ?_
  exact hp
set_option maxRecDepth 100000 in
set_option maxHeartbeats 1000000 in
theorem c_M_quotient {a b : Int32} (hb : ¬ b = 0) (hp : post (some (.int (s_quo a b))) h0) : xp G M_M_quotient 0 [(0, .int a), (1, .int b)] [] h0 0 0 post := by
  unfold s_quo at hp
  refine xp_iload_n d_M_quotient_0 rfl ?_
  refine xp_if_lt (tgt := 10) d_M_quotient_1 (by decide) (fun c1 => ?_) (fun c1 => ?_)
  · skip
    refine xp_iload_n d_M_quotient_10 rfl ?_
    refine xp_iconst (v := 1) d_M_quotient_11 (by decide) ?_
    refine xp_isub d_M_quotient_12 ?_
    refine xp_iload_n d_M_quotient_13 rfl ?_
    refine xp_isub d_M_quotient_14 ?_
    refine xp_iload_n d_M_quotient_15 rfl ?_
    refine xp_idiv d_M_quotient_16 hb ?_
    refine xp_ineg d_M_quotient_17 ?_
    refine xp_ireturn d_M_quotient_18 rfl rfl ?_
    simp only [if_pos c1] at hp
    exact hp
  · skip
    refine xp_iload_n d_M_quotient_4 rfl ?_
    refine xp_iload_n d_M_quotient_5 rfl ?_
    refine xp_idiv d_M_quotient_6 hb ?_
    refine xp_goto (tgt := 18) d_M_quotient_7 (by decide) ?_
    refine xp_ireturn d_M_quotient_18 rfl rfl ?_
    simp only [if_neg c1] at hp
    exact hp
set_option maxRecDepth 100000 in
set_option maxHeartbeats 1000000 in
theorem c_M_holder (hm : x_mdl z P)  (hp : post (some (.int (J 68 32))) (z, x_mg I J, P)) : xp G M_M_holder 0 [(0, .ref 68)] [] (z, x_mg I J, P) 0 0 post := by
  obtain ⟨hz, m_powered, m_next, m_polled, m_count, m_tokens, m_input, m_setpoint, m_gainP, m_gainI, m_sum, m_level, m_taken, m_from, m_target, m_what, m_given, m_state, m_tries, m_got, m_error, m_reply, m_kept, m_whose, m_object, m_seen, m_due, m_notedNode, m_notedObject, m_notedValue, m_notices, m_bytes, m_length⟩ := id hm
  refine xp_aload_n d_M_holder_0 rfl ?_
  refine xm_getI d_M_holder_1 fg_M_107 hz ?_
  refine xp_ireturn d_M_holder_4 rfl rfl ?_
  exact hp
def s_phV (J : xI) : Int32 := if 0 ≤ J 68 32 then J 68 33 else -1
set_option maxRecDepth 100000 in
set_option maxHeartbeats 1000000 in
theorem c_M_phase (hm : x_mdl z P)  (hp : post (some (.int (s_phV J))) (z, x_mg I J, P)) : xp G M_M_phase 0 [(0, .ref 68)] [] (z, x_mg I J, P) 0 0 post := by
  obtain ⟨hz, m_powered, m_next, m_polled, m_count, m_tokens, m_input, m_setpoint, m_gainP, m_gainI, m_sum, m_level, m_taken, m_from, m_target, m_what, m_given, m_state, m_tries, m_got, m_error, m_reply, m_kept, m_whose, m_object, m_seen, m_due, m_notedNode, m_notedObject, m_notedValue, m_notices, m_bytes, m_length⟩ := id hm
  unfold s_phV at hp
  refine xp_aload_n d_M_phase_0 rfl ?_
  refine xm_getI d_M_phase_1 fg_M_107 hz ?_
  refine xp_if_ge (tgt := 11) d_M_phase_4 (by decide) (fun c4 => ?_) (fun c4 => ?_)
  · skip
    refine xp_aload_n d_M_phase_11 rfl ?_
    refine xm_getI d_M_phase_12 fg_M_190 hz ?_
    refine xp_ireturn d_M_phase_15 rfl rfl ?_
    simp only [if_pos c4] at hp
    exact hp
  · skip
    refine xp_iconst (v := -1) d_M_phase_7 (by decide) ?_
    refine xp_goto (tgt := 15) d_M_phase_8 (by decide) ?_
    refine xp_ireturn d_M_phase_15 rfl rfl ?_
    simp only [if_neg c4] at hp
    exact hp
def s_toV (J : xI) (w : Int32) : Int32 := if w = 0 then J 68 37 else if w = 1 then J 68 38 else if w = 2 then J 68 12 else if w = 3 then J 68 36 else -1
set_option maxRecDepth 100000 in
set_option maxHeartbeats 1000000 in
theorem c_M_total (hm : x_mdl z P) {w : Int32} (hp : post (some (.int (s_toV J w))) (z, x_mg I J, P)) : xp G M_M_total 0 [(0, .ref 68), (1, .int w)] [] (z, x_mg I J, P) 0 0 post := by
  obtain ⟨hz, m_powered, m_next, m_polled, m_count, m_tokens, m_input, m_setpoint, m_gainP, m_gainI, m_sum, m_level, m_taken, m_from, m_target, m_what, m_given, m_state, m_tries, m_got, m_error, m_reply, m_kept, m_whose, m_object, m_seen, m_due, m_notedNode, m_notedObject, m_notedValue, m_notices, m_bytes, m_length⟩ := id hm
  unfold s_toV at hp
  refine xp_iload_n d_M_total_0 rfl ?_
  refine xp_if_ne (tgt := 11) d_M_total_1 (by decide) (fun c1 => ?_) (fun c1 => ?_)
  · skip
    refine xp_iload_n d_M_total_11 rfl ?_
    refine xp_iconst (v := 1) d_M_total_12 (by decide) ?_
    refine xp_icmp_ne (tgt := 23) d_M_total_13 (by decide) (fun c13 => ?_) (fun c13 => ?_)
    · skip
      refine xp_iload_n d_M_total_23 rfl ?_
      refine xp_iconst (v := 2) d_M_total_24 (by decide) ?_
      refine xp_icmp_ne (tgt := 35) d_M_total_25 (by decide) (fun c25 => ?_) (fun c25 => ?_)
      · skip
        refine xp_iload_n d_M_total_35 rfl ?_
        refine xp_iconst (v := 3) d_M_total_36 (by decide) ?_
        refine xp_icmp_ne (tgt := 47) d_M_total_37 (by decide) (fun c37 => ?_) (fun c37 => ?_)
        · skip
          refine xp_iconst (v := -1) d_M_total_47 (by decide) ?_
          refine xp_ireturn d_M_total_48 rfl rfl ?_
          simp only [if_neg c1, if_neg c13, if_neg c25, if_neg c37] at hp
          exact hp
        · skip
          refine xp_aload_n d_M_total_40 rfl ?_
          refine xm_getI d_M_total_41 fg_M_118 hz ?_
          refine xp_goto (tgt := 48) d_M_total_44 (by decide) ?_
          refine xp_ireturn d_M_total_48 rfl rfl ?_
          simp only [if_neg c1, if_neg c13, if_neg c25, if_pos c37] at hp
          exact hp
      · skip
        refine xp_aload_n d_M_total_28 rfl ?_
        refine xm_getI d_M_total_29 fg_M_125 hz ?_
        refine xp_goto (tgt := 48) d_M_total_32 (by decide) ?_
        refine xp_ireturn d_M_total_48 rfl rfl ?_
        simp only [if_neg c1, if_neg c13, if_pos c25] at hp
        exact hp
    · skip
      refine xp_aload_n d_M_total_16 rfl ?_
      refine xm_getI d_M_total_17 fg_M_245 hz ?_
      refine xp_goto (tgt := 48) d_M_total_20 (by decide) ?_
      refine xp_ireturn d_M_total_48 rfl rfl ?_
      simp only [if_neg c1, if_pos c13] at hp
      exact hp
  · skip
    refine xp_aload_n d_M_total_4 rfl ?_
    refine xm_getI d_M_total_5 fg_M_230 hz ?_
    refine xp_goto (tgt := 48) d_M_total_8 (by decide) ?_
    refine xp_ireturn d_M_total_48 rfl rfl ?_
    simp only [if_pos c1] at hp
    exact hp
def s_snV (n v : Int32) : Int32 := if s_isN n = 0 then 0 else if s_out v (-10000) 10000 = 0 then 1 else 0
def s_snJ (J : xI) (n v : Int32) : xI := if s_isN n = 0 then J else if s_out v (-10000) 10000 = 0 then x_up J 74 (k_tn n) v else J
def s_gaV (n p i : Int32) : Int32 := if s_isN n = 0 then 0 else if s_out p 0 100 = 0 then (if s_out i 0 100 = 0 then 1 else 0) else 0
def s_gaJ (J : xI) (n p i : Int32) : xI := if s_isN n = 0 then J else if s_out p 0 100 = 0 then (if s_out i 0 100 = 0 then x_up (x_up (x_up J 76 (k_tn n) p) 77 (k_tn n) i) 78 (k_tn n) 0 else J) else J
def s_soV (w a m : Int32) : Int32 := if s_out w 0 1 = 0 then (if s_out a 0 17 = 0 then (if s_out m 1 255 = 0 then 1 else 0) else 0) else 0
def s_soJ (J : xI) (w a m : Int32) : xI := if s_out w 0 1 = 0 then (if s_out a 0 17 = 0 then (if s_out m 1 255 = 0 then x_up (x_up (x_up J 68 42 w) 68 43 a) 68 44 m else J) else J) else J
set_option maxRecDepth 100000 in
set_option maxHeartbeats 1000000 in
theorem c_M_sense (hm : x_mdl z P) {n v : Int32} (hp : post (some (.int (s_snV n v))) (z, x_mg I (s_snJ J n v), P)) : xp G M_M_sense 0 [(0, .ref 68), (1, .int n), (2, .int v)] [] (z, x_mg I J, P) 0 0 post := by
  obtain ⟨hz, m_powered, m_next, m_polled, m_count, m_tokens, m_input, m_setpoint, m_gainP, m_gainI, m_sum, m_level, m_taken, m_from, m_target, m_what, m_given, m_state, m_tries, m_got, m_error, m_reply, m_kept, m_whose, m_object, m_seen, m_due, m_notedNode, m_notedObject, m_notedValue, m_notices, m_bytes, m_length⟩ := id hm
  unfold s_snV s_snJ at hp
  refine xp_iload_n d_M_sense_0 rfl ?_
  refine xq_S1r d_M_sense_1 g_M_sense_111 rfl rfl ?_
  refine c_M_isNode ?_
  refine ⟨_, rfl, ?_⟩
  refine xp_if_eq (tgt := 20) d_M_sense_4 (by decide) (fun c4 => ?_) (fun c4 => ?_)
  · skip
    refine xp_iconst (v := 0) d_M_sense_20 (by decide) ?_
    refine xp_ireturn d_M_sense_21 rfl (x_bit (by first | exact Or.inl rfl | exact Or.inr rfl | assumption)).1 ?_
    simp only [if_pos c4] at hp
    exact hp
  · skip
    refine xp_iload_n d_M_sense_7 rfl ?_
    refine xp_sipush (v := -10000) d_M_sense_8 (by decide) ?_
    refine xp_sipush (v := 10000) d_M_sense_11 (by decide) ?_
    refine xq_S3r d_M_sense_14 g_M_sense_121 rfl rfl ?_
    refine c_M_outside ?_
    refine ⟨_, rfl, ?_⟩
    refine xp_if_eq (tgt := 22) d_M_sense_17 (by decide) (fun c17 => ?_) (fun c17 => ?_)
    · skip
      obtain ⟨j, hj, rfl⟩ := s_isN_ix c4
      simp only [k_tn_nI (show j < 1000 by omega)] at hp
      refine xp_aload_n d_M_sense_22 rfl ?_
      refine xm_getR d_M_sense_23 fg_M_26 hz (by assumption) ?_
      refine xp_iload_n d_M_sense_26 rfl ?_
      refine xp_iload_n d_M_sense_27 rfl ?_
      refine xm_iastore d_M_sense_28 rfl (by decide) hz rfl (by omega) (by decide) ?_
      refine xp_iconst (v := 1) d_M_sense_29 (by decide) ?_
      refine xp_ireturn d_M_sense_30 rfl (x_bit (by first | exact Or.inl rfl | exact Or.inr rfl | assumption)).1 ?_
      simp only [if_neg c4, if_pos c17] at hp
      exact hp
    · skip
      refine xp_iconst (v := 0) d_M_sense_20 (by decide) ?_
      refine xp_ireturn d_M_sense_21 rfl (x_bit (by first | exact Or.inl rfl | exact Or.inr rfl | assumption)).1 ?_
      simp only [if_neg c4, if_neg c17] at hp
      exact hp
set_option maxRecDepth 100000 in
set_option maxHeartbeats 1000000 in
theorem c_M_gains (hm : x_mdl z P) {n p i : Int32} (hp : post (some (.int (s_gaV n p i))) (z, x_mg I (s_gaJ J n p i), P)) : xp G M_M_gains 0 [(0, .ref 68), (1, .int n), (2, .int p), (3, .int i)] [] (z, x_mg I J, P) 0 0 post := by
  obtain ⟨hz, m_powered, m_next, m_polled, m_count, m_tokens, m_input, m_setpoint, m_gainP, m_gainI, m_sum, m_level, m_taken, m_from, m_target, m_what, m_given, m_state, m_tries, m_got, m_error, m_reply, m_kept, m_whose, m_object, m_seen, m_due, m_notedNode, m_notedObject, m_notedValue, m_notices, m_bytes, m_length⟩ := id hm
  unfold s_gaV s_gaJ at hp
  refine xp_iload_n d_M_gains_0 rfl ?_
  refine xq_S1r d_M_gains_1 g_M_gains_111 rfl rfl ?_
  refine c_M_isNode ?_
  refine ⟨_, rfl, ?_⟩
  refine xp_if_eq (tgt := 27) d_M_gains_4 (by decide) (fun c4 => ?_) (fun c4 => ?_)
  · skip
    refine xp_iconst (v := 0) d_M_gains_27 (by decide) ?_
    refine xp_ireturn d_M_gains_28 rfl (x_bit (by first | exact Or.inl rfl | exact Or.inr rfl | assumption)).1 ?_
    simp only [if_pos c4] at hp
    exact hp
  · skip
    refine xp_iload_n d_M_gains_7 rfl ?_
    refine xp_iconst (v := 0) d_M_gains_8 (by decide) ?_
    refine xp_bipush (v := 100) d_M_gains_9 (by decide) ?_
    refine xq_S3r d_M_gains_11 g_M_gains_121 rfl rfl ?_
    refine c_M_outside ?_
    refine ⟨_, rfl, ?_⟩
    refine xp_if_ne (tgt := 27) d_M_gains_14 (by decide) (fun c14 => ?_) (fun c14 => ?_)
    · skip
      refine xp_iconst (v := 0) d_M_gains_27 (by decide) ?_
      refine xp_ireturn d_M_gains_28 rfl (x_bit (by first | exact Or.inl rfl | exact Or.inr rfl | assumption)).1 ?_
      simp only [if_neg c4, if_neg c14] at hp
      exact hp
    · skip
      refine xp_iload_n d_M_gains_17 rfl ?_
      refine xp_iconst (v := 0) d_M_gains_18 (by decide) ?_
      refine xp_bipush (v := 100) d_M_gains_19 (by decide) ?_
      refine xq_S3r d_M_gains_21 g_M_gains_121 rfl rfl ?_
      refine c_M_outside ?_
      refine ⟨_, rfl, ?_⟩
      refine xp_if_eq (tgt := 29) d_M_gains_24 (by decide) (fun c24 => ?_) (fun c24 => ?_)
      · skip
        obtain ⟨j, hj, rfl⟩ := s_isN_ix c4
        simp only [k_tn_nI (show j < 1000 by omega)] at hp
        refine xp_aload_n d_M_gains_29 rfl ?_
        refine xm_getR d_M_gains_30 fg_M_32 hz (by assumption) ?_
        refine xp_iload_n d_M_gains_33 rfl ?_
        refine xp_iload_n d_M_gains_34 rfl ?_
        refine xm_iastore d_M_gains_35 rfl (by decide) hz rfl (by omega) (by decide) ?_
        refine xp_aload_n d_M_gains_36 rfl ?_
        refine xm_getR d_M_gains_37 fg_M_35 hz (by assumption) ?_
        refine xp_iload_n d_M_gains_40 rfl ?_
        refine xp_iload_n d_M_gains_41 rfl ?_
        refine xm_iastore d_M_gains_42 rfl (by decide) hz rfl (by omega) (by decide) ?_
        refine xp_aload_n d_M_gains_43 rfl ?_
        refine xm_getR d_M_gains_44 fg_M_38 hz (by assumption) ?_
        refine xp_iload_n d_M_gains_47 rfl ?_
        refine xp_iconst (v := 0) d_M_gains_48 (by decide) ?_
        refine xm_iastore d_M_gains_49 rfl (by decide) hz rfl (by omega) (by decide) ?_
        refine xp_iconst (v := 1) d_M_gains_50 (by decide) ?_
        refine xp_ireturn d_M_gains_51 rfl (x_bit (by first | exact Or.inl rfl | exact Or.inr rfl | assumption)).1 ?_
        simp only [if_neg c4, if_pos c14, if_pos c24] at hp
        exact hp
      · skip
        refine xp_iconst (v := 0) d_M_gains_27 (by decide) ?_
        refine xp_ireturn d_M_gains_28 rfl (x_bit (by first | exact Or.inl rfl | exact Or.inr rfl | assumption)).1 ?_
        simp only [if_neg c4, if_pos c14, if_neg c24] at hp
        exact hp
set_option maxRecDepth 100000 in
set_option maxHeartbeats 1000000 in
theorem c_M_spoil (hm : x_mdl z P) {w a m : Int32} (hp : post (some (.int (s_soV w a m))) (z, x_mg I (s_soJ J w a m), P)) : xp G M_M_spoil 0 [(0, .ref 68), (1, .int w), (2, .int a), (3, .int m)] [] (z, x_mg I J, P) 0 0 post := by
  obtain ⟨hz, m_powered, m_next, m_polled, m_count, m_tokens, m_input, m_setpoint, m_gainP, m_gainI, m_sum, m_level, m_taken, m_from, m_target, m_what, m_given, m_state, m_tries, m_got, m_error, m_reply, m_kept, m_whose, m_object, m_seen, m_due, m_notedNode, m_notedObject, m_notedValue, m_notices, m_bytes, m_length⟩ := id hm
  unfold s_soV s_soJ at hp
  refine xp_iload_n d_M_spoil_0 rfl ?_
  refine xp_iconst (v := 0) d_M_spoil_1 (by decide) ?_
  refine xp_iconst (v := 1) d_M_spoil_2 (by decide) ?_
  refine xq_S3r d_M_spoil_3 g_M_spoil_121 rfl rfl ?_
  refine c_M_outside ?_
  refine ⟨_, rfl, ?_⟩
  refine xp_if_ne (tgt := 30) d_M_spoil_6 (by decide) (fun c6 => ?_) (fun c6 => ?_)
  · skip
    refine xp_iconst (v := 0) d_M_spoil_30 (by decide) ?_
    refine xp_ireturn d_M_spoil_31 rfl (x_bit (by first | exact Or.inl rfl | exact Or.inr rfl | assumption)).1 ?_
    simp only [if_neg c6] at hp
    exact hp
  · skip
    refine xp_iload_n d_M_spoil_9 rfl ?_
    refine xp_iconst (v := 0) d_M_spoil_10 (by decide) ?_
    refine xp_bipush (v := 17) d_M_spoil_11 (by decide) ?_
    refine xq_S3r d_M_spoil_13 g_M_spoil_121 rfl rfl ?_
    refine c_M_outside ?_
    refine ⟨_, rfl, ?_⟩
    refine xp_if_ne (tgt := 30) d_M_spoil_16 (by decide) (fun c16 => ?_) (fun c16 => ?_)
    · skip
      refine xp_iconst (v := 0) d_M_spoil_30 (by decide) ?_
      refine xp_ireturn d_M_spoil_31 rfl (x_bit (by first | exact Or.inl rfl | exact Or.inr rfl | assumption)).1 ?_
      simp only [if_pos c6, if_neg c16] at hp
      exact hp
    · skip
      refine xp_iload_n d_M_spoil_19 rfl ?_
      refine xp_iconst (v := 1) d_M_spoil_20 (by decide) ?_
      refine xp_sipush (v := 255) d_M_spoil_21 (by decide) ?_
      refine xq_S3r d_M_spoil_24 g_M_spoil_121 rfl rfl ?_
      refine c_M_outside ?_
      refine ⟨_, rfl, ?_⟩
      refine xp_if_eq (tgt := 32) d_M_spoil_27 (by decide) (fun c27 => ?_) (fun c27 => ?_)
      · skip
        refine xp_aload_n d_M_spoil_32 rfl ?_
        refine xp_iload_n d_M_spoil_33 rfl ?_
        refine xm_putI d_M_spoil_34 f_M_132 hz ?_
        refine xp_aload_n d_M_spoil_37 rfl ?_
        refine xp_iload_n d_M_spoil_38 rfl ?_
        refine xm_putI d_M_spoil_39 f_M_135 hz ?_
        refine xp_aload_n d_M_spoil_42 rfl ?_
        refine xp_iload_n d_M_spoil_43 rfl ?_
        refine xm_putI d_M_spoil_44 f_M_138 hz ?_
        refine xp_iconst (v := 1) d_M_spoil_47 (by decide) ?_
        refine xp_ireturn d_M_spoil_48 rfl (x_bit (by first | exact Or.inl rfl | exact Or.inr rfl | assumption)).1 ?_
        simp only [if_pos c6, if_pos c16, if_pos c27] at hp
        exact hp
      · skip
        refine xp_iconst (v := 0) d_M_spoil_30 (by decide) ?_
        refine xp_ireturn d_M_spoil_31 rfl (x_bit (by first | exact Or.inl rfl | exact Or.inr rfl | assumption)).1 ?_
        simp only [if_pos c6, if_pos c16, if_neg c27] at hp
        exact hp
set_option maxRecDepth 100000 in
set_option maxHeartbeats 1000000 in
theorem l_M_waiting_4 (hm : x_mdl z P) {n : Int32} {m : Nat} (em : J 68 12 = nI m) (hm6 : m ≤ 60) (hp : post (some (.int (s_wait J n m))) (z, x_mg I J, P)) : ∀ q k : Nat, q + k = m → xp G M_M_waiting 4 [(0, .ref 68), (1, .int n), (2, .int (s_wait J n k)), (3, .int (nI k))] [] (z, x_mg I J, P) 0 0 post := by
  obtain ⟨hz, m_powered, m_next, m_polled, m_count, m_tokens, m_input, m_setpoint, m_gainP, m_gainI, m_sum, m_level, m_taken, m_from, m_target, m_what, m_given, m_state, m_tries, m_got, m_error, m_reply, m_kept, m_whose, m_object, m_seen, m_due, m_notedNode, m_notedObject, m_notedValue, m_notices, m_bytes, m_length⟩ := id hm
  intro q
  induction q with
  | zero =>
    intro k hk
    have hk : k = m := by omega
    subst hk
    refine xp_iload_n d_M_waiting_4 rfl ?_
    refine xp_aload_n d_M_waiting_5 rfl ?_
    refine xm_getI d_M_waiting_6 fg_M_125 hz ?_
    refine xp_icmp_ge (tgt := 45) d_M_waiting_9 (by decide) (fun c9 => ?_) (fun c9 => absurd (show J 68 12 ≤ nI k by rw [em]; exact nI_le (Nat.le_refl _) (by omega)) c9)
    refine xp_iload_n d_M_waiting_45 rfl ?_
    refine xp_ireturn d_M_waiting_46 rfl rfl ?_
    exact hp
  | succ q ih =>
    intro k hk
    refine xp_iload_n d_M_waiting_4 rfl ?_
    refine xp_aload_n d_M_waiting_5 rfl ?_
    refine xm_getI d_M_waiting_6 fg_M_125 hz ?_
    refine xp_icmp_ge (tgt := 45) d_M_waiting_9 (by decide) (fun c9 => absurd c9 (fun e => by rw [em] at e; have := (nI_leI (a := m) (b := k) (by omega) (by omega)).mp e; omega)) (fun c9 => ?_)
    refine xp_aload_n d_M_waiting_12 rfl ?_
    refine xm_getR d_M_waiting_13 fg_M_47 hz (by assumption) ?_
    refine xp_iload_n d_M_waiting_16 rfl ?_
    refine xm_iaload d_M_waiting_17 rfl (by decide) hz rfl (by omega) (by decide) ?_
    refine xp_iload_n d_M_waiting_18 rfl ?_
    refine xp_icmp_ne (tgt := 37) d_M_waiting_19 (by decide) (fun c19 => ?_) (fun c19 => ?_)
    · skip
      refine xp_iload_n d_M_waiting_37 rfl ?_
      refine xp_istore_n d_M_waiting_38 (by decide) ?_
      refine xp_inc1 d_M_waiting_39 rfl (by decide) ?_
      refine xp_goto (tgt := 4) d_M_waiting_42 (by decide) ?_
      refine xp_loc (lv' := [(0, .ref 68), (1, .int n), (2, .int (s_wait J n (k + 1))), (3, .int (nI (k + 1)))]) ?_ (ih (k + 1) (by omega))
      refine ⟨rfl, rfl, ?_, rfl, trivial⟩
      show _ = some (Value.int (if J 81 k = n then (if J 85 k = 0 then s_wait J n k + 1 else s_wait J n k) else s_wait J n k))
      simp only [if_neg c19]
      rfl
    · skip
      refine xp_aload_n d_M_waiting_22 rfl ?_
      refine xm_getR d_M_waiting_23 fg_M_59 hz (by assumption) ?_
      refine xp_iload_n d_M_waiting_26 rfl ?_
      refine xm_iaload d_M_waiting_27 rfl (by decide) hz rfl (by omega) (by decide) ?_
      refine xp_if_ne (tgt := 37) d_M_waiting_28 (by decide) (fun c28 => ?_) (fun c28 => ?_)
      · skip
        refine xp_iload_n d_M_waiting_37 rfl ?_
        refine xp_istore_n d_M_waiting_38 (by decide) ?_
        refine xp_inc1 d_M_waiting_39 rfl (by decide) ?_
        refine xp_goto (tgt := 4) d_M_waiting_42 (by decide) ?_
        refine xp_loc (lv' := [(0, .ref 68), (1, .int n), (2, .int (s_wait J n (k + 1))), (3, .int (nI (k + 1)))]) ?_ (ih (k + 1) (by omega))
        refine ⟨rfl, rfl, ?_, rfl, trivial⟩
        show _ = some (Value.int (if J 81 k = n then (if J 85 k = 0 then s_wait J n k + 1 else s_wait J n k) else s_wait J n k))
        simp only [if_pos c19, if_neg c28]
        rfl
      · skip
        refine xp_iload_n d_M_waiting_31 rfl ?_
        refine xp_iconst (v := 1) d_M_waiting_32 (by decide) ?_
        refine xp_iadd d_M_waiting_33 ?_
        refine xp_goto (tgt := 38) d_M_waiting_34 (by decide) ?_
        refine xp_istore_n d_M_waiting_38 (by decide) ?_
        refine xp_inc1 d_M_waiting_39 rfl (by decide) ?_
        refine xp_goto (tgt := 4) d_M_waiting_42 (by decide) ?_
        refine xp_loc (lv' := [(0, .ref 68), (1, .int n), (2, .int (s_wait J n (k + 1))), (3, .int (nI (k + 1)))]) ?_ (ih (k + 1) (by omega))
        refine ⟨rfl, rfl, ?_, rfl, trivial⟩
        show _ = some (Value.int (if J 81 k = n then (if J 85 k = 0 then s_wait J n k + 1 else s_wait J n k) else s_wait J n k))
        simp only [if_pos c19, if_pos c28]
        rfl
set_option maxRecDepth 100000 in
set_option maxHeartbeats 1000000 in
theorem c_M_waiting (hm : x_mdl z P) {n : Int32} {m : Nat} (em : J 68 12 = nI m) (hm6 : m ≤ 60) (hp : post (some (.int (s_wait J n m))) (z, x_mg I J, P)) : xp G M_M_waiting 0 [(0, .ref 68), (1, .int n)] [] (z, x_mg I J, P) 0 0 post := by
  obtain ⟨hz, m_powered, m_next, m_polled, m_count, m_tokens, m_input, m_setpoint, m_gainP, m_gainI, m_sum, m_level, m_taken, m_from, m_target, m_what, m_given, m_state, m_tries, m_got, m_error, m_reply, m_kept, m_whose, m_object, m_seen, m_due, m_notedNode, m_notedObject, m_notedValue, m_notices, m_bytes, m_length⟩ := id hm
  refine xp_iconst (v := 0) d_M_waiting_0 (by decide) ?_
  refine xp_istore_n d_M_waiting_1 (by decide) ?_
  refine xp_iconst (v := 0) d_M_waiting_2 (by decide) ?_
  refine xp_istore_n d_M_waiting_3 (by decide) ?_
  refine xp_loc (lv' := [(0, .ref 68), (1, .int n), (2, .int (s_wait J n 0)), (3, .int (nI 0))]) ⟨rfl, rfl, rfl, rfl, trivial⟩ ?_
  exact l_M_waiting_4 hm em hm6 hp m 0 rfl
set_option maxRecDepth 100000 in
set_option maxHeartbeats 1000000 in
theorem l_M_subscriptionsOf_4 (hm : x_mdl z P) {n : Int32} {m : Nat} (em : J 68 22 = nI m) (hm6 : m ≤ 18) (hp : post (some (.int (s_sof J n m))) (z, x_mg I J, P)) : ∀ q k : Nat, q + k = m → xp G M_M_subscriptionsOf 4 [(0, .ref 68), (1, .int n), (2, .int (s_sof J n k)), (3, .int (nI k))] [] (z, x_mg I J, P) 0 0 post := by
  obtain ⟨hz, m_powered, m_next, m_polled, m_count, m_tokens, m_input, m_setpoint, m_gainP, m_gainI, m_sum, m_level, m_taken, m_from, m_target, m_what, m_given, m_state, m_tries, m_got, m_error, m_reply, m_kept, m_whose, m_object, m_seen, m_due, m_notedNode, m_notedObject, m_notedValue, m_notices, m_bytes, m_length⟩ := id hm
  intro q
  induction q with
  | zero =>
    intro k hk
    have hk : k = m := by omega
    subst hk
    refine xp_iload_n d_M_subscriptionsOf_4 rfl ?_
    refine xp_aload_n d_M_subscriptionsOf_5 rfl ?_
    refine xm_getI d_M_subscriptionsOf_6 fg_M_115 hz ?_
    refine xp_icmp_ge (tgt := 36) d_M_subscriptionsOf_9 (by decide) (fun c9 => ?_) (fun c9 => absurd (show J 68 22 ≤ nI k by rw [em]; exact nI_le (Nat.le_refl _) (by omega)) c9)
    refine xp_iload_n d_M_subscriptionsOf_36 rfl ?_
    refine xp_ireturn d_M_subscriptionsOf_37 rfl rfl ?_
    exact hp
  | succ q ih =>
    intro k hk
    refine xp_iload_n d_M_subscriptionsOf_4 rfl ?_
    refine xp_aload_n d_M_subscriptionsOf_5 rfl ?_
    refine xm_getI d_M_subscriptionsOf_6 fg_M_115 hz ?_
    refine xp_icmp_ge (tgt := 36) d_M_subscriptionsOf_9 (by decide) (fun c9 => absurd c9 (fun e => by rw [em] at e; have := (nI_leI (a := m) (b := k) (by omega) (by omega)).mp e; omega)) (fun c9 => ?_)
    refine xp_aload_n d_M_subscriptionsOf_12 rfl ?_
    refine xm_getR d_M_subscriptionsOf_13 fg_M_74 hz (by assumption) ?_
    refine xp_iload_n d_M_subscriptionsOf_16 rfl ?_
    refine xm_iaload d_M_subscriptionsOf_17 rfl (by decide) hz rfl (by omega) (by decide) ?_
    refine xp_iload_n d_M_subscriptionsOf_18 rfl ?_
    refine xp_icmp_ne (tgt := 28) d_M_subscriptionsOf_19 (by decide) (fun c19 => ?_) (fun c19 => ?_)
    · skip
      refine xp_iload_n d_M_subscriptionsOf_28 rfl ?_
      refine xp_istore_n d_M_subscriptionsOf_29 (by decide) ?_
      refine xp_inc1 d_M_subscriptionsOf_30 rfl (by decide) ?_
      refine xp_goto (tgt := 4) d_M_subscriptionsOf_33 (by decide) ?_
      refine xp_loc (lv' := [(0, .ref 68), (1, .int n), (2, .int (s_sof J n (k + 1))), (3, .int (nI (k + 1)))]) ?_ (ih (k + 1) (by omega))
      refine ⟨rfl, rfl, ?_, rfl, trivial⟩
      show _ = some (Value.int (if J 90 k = n then s_sof J n k + 1 else s_sof J n k))
      simp only [if_neg c19]
      rfl
    · skip
      refine xp_iload_n d_M_subscriptionsOf_22 rfl ?_
      refine xp_iconst (v := 1) d_M_subscriptionsOf_23 (by decide) ?_
      refine xp_iadd d_M_subscriptionsOf_24 ?_
      refine xp_goto (tgt := 29) d_M_subscriptionsOf_25 (by decide) ?_
      refine xp_istore_n d_M_subscriptionsOf_29 (by decide) ?_
      refine xp_inc1 d_M_subscriptionsOf_30 rfl (by decide) ?_
      refine xp_goto (tgt := 4) d_M_subscriptionsOf_33 (by decide) ?_
      refine xp_loc (lv' := [(0, .ref 68), (1, .int n), (2, .int (s_sof J n (k + 1))), (3, .int (nI (k + 1)))]) ?_ (ih (k + 1) (by omega))
      refine ⟨rfl, rfl, ?_, rfl, trivial⟩
      show _ = some (Value.int (if J 90 k = n then s_sof J n k + 1 else s_sof J n k))
      simp only [if_pos c19]
      rfl
set_option maxRecDepth 100000 in
set_option maxHeartbeats 1000000 in
theorem c_M_subscriptionsOf (hm : x_mdl z P) {n : Int32} {m : Nat} (em : J 68 22 = nI m) (hm6 : m ≤ 18) (hp : post (some (.int (s_sof J n m))) (z, x_mg I J, P)) : xp G M_M_subscriptionsOf 0 [(0, .ref 68), (1, .int n)] [] (z, x_mg I J, P) 0 0 post := by
  obtain ⟨hz, m_powered, m_next, m_polled, m_count, m_tokens, m_input, m_setpoint, m_gainP, m_gainI, m_sum, m_level, m_taken, m_from, m_target, m_what, m_given, m_state, m_tries, m_got, m_error, m_reply, m_kept, m_whose, m_object, m_seen, m_due, m_notedNode, m_notedObject, m_notedValue, m_notices, m_bytes, m_length⟩ := id hm
  refine xp_iconst (v := 0) d_M_subscriptionsOf_0 (by decide) ?_
  refine xp_istore_n d_M_subscriptionsOf_1 (by decide) ?_
  refine xp_iconst (v := 0) d_M_subscriptionsOf_2 (by decide) ?_
  refine xp_istore_n d_M_subscriptionsOf_3 (by decide) ?_
  refine xp_loc (lv' := [(0, .ref 68), (1, .int n), (2, .int (s_sof J n 0)), (3, .int (nI 0))]) ⟨rfl, rfl, rfl, rfl, trivial⟩ ?_
  exact l_M_subscriptionsOf_4 hm em hm6 hp m 0 rfl
set_option maxRecDepth 100000 in
set_option maxHeartbeats 1000000 in
theorem l_M_outputOf_2 (hm : x_mdl z P) {n : Nat} (hn : n ≤ 5) : ∀ q l : Nat, q + l = 17 → 1 ≤ l → (post (some (.int (s_oof J n q l))) (z, x_mg I J, P)) → xp G M_M_outputOf 2 [(0, .ref 68), (1, .int (nI n)), (2, .int (nI l))] [] (z, x_mg I J, P) 0 0 post := by
  obtain ⟨hz, m_powered, m_next, m_polled, m_count, m_tokens, m_input, m_setpoint, m_gainP, m_gainI, m_sum, m_level, m_taken, m_from, m_target, m_what, m_given, m_state, m_tries, m_got, m_error, m_reply, m_kept, m_whose, m_object, m_seen, m_due, m_notedNode, m_notedObject, m_notedValue, m_notices, m_bytes, m_length⟩ := id hm
  intro q
  induction q with
  | zero =>
    intro l hl h1 hp
    refine xp_iload_n d_M_outputOf_2 rfl ?_
    refine xp_bipush (v := 16) d_M_outputOf_3 (by decide) ?_
    refine xp_icmp_gt (tgt := 40) d_M_outputOf_5 (by decide) (fun c5 => ?_) (fun c5 => absurd (show (16 : Int32) < nI l by rw [show l = 17 by omega]; decide) c5)
    refine xp_iconst (v := 0) d_M_outputOf_40 (by decide) ?_
    refine xp_ireturn d_M_outputOf_41 rfl rfl ?_
    exact hp
  | succ q ih =>
    intro l hl h1 hp
    unfold s_oof at hp
    refine xp_iload_n d_M_outputOf_2 rfl ?_
    refine xp_bipush (v := 16) d_M_outputOf_3 (by decide) ?_
    refine xp_icmp_gt (tgt := 40) d_M_outputOf_5 (by decide) (fun c5 => absurd c5 (fun e => by have := (nI_ltI (a := 16) (b := l) (by decide) (by omega)).mp e; omega)) (fun c5 => ?_)
    refine xp_aload_n d_M_outputOf_8 rfl ?_
    refine xm_getR d_M_outputOf_9 fg_M_44 hz (by assumption) ?_
    refine xp_bipush (v := 17) d_M_outputOf_12 (by decide) ?_
    refine xp_iload_n d_M_outputOf_14 rfl ?_
    refine xp_imul d_M_outputOf_15 ?_
    refine xp_iload_n d_M_outputOf_16 rfl ?_
    refine xp_iadd d_M_outputOf_17 ?_
    refine xm_baload d_M_outputOf_18 rfl (by decide) hz (x_mulA 17 n l) (by omega) (by decide) ?_
    refine xp_if_eq (tgt := 34) d_M_outputOf_19 (by decide) (fun c19 => ?_) (fun c19 => ?_)
    · skip
      refine xp_inc1 d_M_outputOf_34 rfl (by decide) ?_
      refine xp_goto (tgt := 2) d_M_outputOf_37 (by decide) ?_
      refine xp_loc (lv' := [(0, .ref 68), (1, .int (nI n)), (2, .int (nI (l + 1)))]) ⟨rfl, rfl, rfl, trivial⟩ ?_
      rw [if_pos c19] at hp
      exact ih (l + 1) (by omega) (by omega) hp
    · skip
      refine xp_aload_n d_M_outputOf_22 rfl ?_
      refine xm_getR d_M_outputOf_23 fg_M_41 hz (by assumption) ?_
      refine xp_bipush (v := 17) d_M_outputOf_26 (by decide) ?_
      refine xp_iload_n d_M_outputOf_28 rfl ?_
      refine xp_imul d_M_outputOf_29 ?_
      refine xp_iload_n d_M_outputOf_30 rfl ?_
      refine xp_iadd d_M_outputOf_31 ?_
      refine xm_iaload d_M_outputOf_32 rfl (by decide) hz (x_mulA 17 n l) (by omega) (by decide) ?_
      refine xp_ireturn d_M_outputOf_33 rfl rfl ?_
      rw [if_neg c19] at hp
      exact hp
set_option maxRecDepth 100000 in
set_option maxHeartbeats 1000000 in
theorem c_M_outputOf (hm : x_mdl z P) {n : Nat} (hn : n ≤ 5) (hp : post (some (.int (s_oof J n 16 1))) (z, x_mg I J, P)) : xp G M_M_outputOf 0 [(0, .ref 68), (1, .int (nI n))] [] (z, x_mg I J, P) 0 0 post := by
  obtain ⟨hz, m_powered, m_next, m_polled, m_count, m_tokens, m_input, m_setpoint, m_gainP, m_gainI, m_sum, m_level, m_taken, m_from, m_target, m_what, m_given, m_state, m_tries, m_got, m_error, m_reply, m_kept, m_whose, m_object, m_seen, m_due, m_notedNode, m_notedObject, m_notedValue, m_notices, m_bytes, m_length⟩ := id hm
  refine xp_iconst (v := 1) d_M_outputOf_0 (by decide) ?_
  refine xp_istore_n d_M_outputOf_1 (by decide) ?_
  refine xp_loc (lv' := [(0, .ref 68), (1, .int (nI n)), (2, .int (nI 1))]) ⟨rfl, rfl, rfl, trivial⟩ ?_
  exact l_M_outputOf_2 hm hn 16 1 rfl (by omega) hp
set_option maxRecDepth 100000 in
set_option maxHeartbeats 1000000 in
theorem c_M_value (hm : x_mdl z P) {n ob : Int32} (hp : post (some (.int (s_val J n ob))) (z, x_mg I J, P)) : xp G M_M_value 0 [(0, .ref 68), (1, .int n), (2, .int ob)] [] (z, x_mg I J, P) 0 0 post := by
  obtain ⟨hz, m_powered, m_next, m_polled, m_count, m_tokens, m_input, m_setpoint, m_gainP, m_gainI, m_sum, m_level, m_taken, m_from, m_target, m_what, m_given, m_state, m_tries, m_got, m_error, m_reply, m_kept, m_whose, m_object, m_seen, m_due, m_notedNode, m_notedObject, m_notedValue, m_notices, m_bytes, m_length⟩ := id hm
  unfold s_val at hp
  refine xp_iload_n d_M_value_0 rfl ?_
  refine xq_S1r d_M_value_1 g_M_value_111 rfl rfl ?_
  refine c_M_isNode ?_
  refine ⟨_, rfl, ?_⟩
  refine xp_if_ne (tgt := 11) d_M_value_4 (by decide) (fun c4 => ?_) (fun c4 => ?_)
  · skip
    obtain ⟨j, hj, rfl⟩ := s_isN_ix c4
    simp only [k_tn_nI (show j < 1000 by omega)] at hp
    refine xp_iload_n d_M_value_11 rfl ?_
    refine xp_if_ne (tgt := 24) d_M_value_12 (by decide) (fun c12 => ?_) (fun c12 => ?_)
    · skip
      refine xp_iload_n d_M_value_24 rfl ?_
      refine xp_iconst (v := 1) d_M_value_25 (by decide) ?_
      refine xp_icmp_ne (tgt := 37) d_M_value_26 (by decide) (fun c26 => ?_) (fun c26 => ?_)
      · skip
        refine xp_iload_n d_M_value_37 rfl ?_
        refine xp_iconst (v := 2) d_M_value_38 (by decide) ?_
        refine xp_icmp_ne (tgt := 51) d_M_value_39 (by decide) (fun c39 => ?_) (fun c39 => ?_)
        · skip
          refine xp_iconst (v := 0) d_M_value_51 (by decide) ?_
          refine xp_ireturn d_M_value_52 rfl rfl ?_
          simp only [if_neg c4, if_neg c12, if_neg c26, if_neg c39] at hp
          exact hp
        · skip
          refine xp_aload_n d_M_value_42 rfl ?_
          refine xm_getR d_M_value_43 fg_M_29 hz (by assumption) ?_
          refine xp_iload_n d_M_value_46 rfl ?_
          refine xm_iaload d_M_value_47 rfl (by decide) hz rfl (by omega) (by decide) ?_
          refine xp_goto (tgt := 52) d_M_value_48 (by decide) ?_
          refine xp_ireturn d_M_value_52 rfl rfl ?_
          simp only [if_neg c4, if_neg c12, if_neg c26, if_pos c39] at hp
          exact hp
      · skip
        refine xp_aload_n d_M_value_29 rfl ?_
        refine xp_iload_n d_M_value_30 rfl ?_
        refine xq_V1r d_M_value_31 g_M_value_156 (x_mA hz) rfl rfl ?_
        refine c_M_outputOf hm hj ?_
        refine ⟨_, rfl, ?_⟩
        refine xp_goto (tgt := 52) d_M_value_34 (by decide) ?_
        refine xp_ireturn d_M_value_52 rfl rfl ?_
        simp only [if_neg c4, if_neg c12, if_pos c26] at hp
        exact hp
    · skip
      refine xp_aload_n d_M_value_15 rfl ?_
      refine xm_getR d_M_value_16 fg_M_26 hz (by assumption) ?_
      refine xp_iload_n d_M_value_19 rfl ?_
      refine xm_iaload d_M_value_20 rfl (by decide) hz rfl (by omega) (by decide) ?_
      refine xp_goto (tgt := 52) d_M_value_21 (by decide) ?_
      refine xp_ireturn d_M_value_52 rfl rfl ?_
      simp only [if_neg c4, if_pos c12] at hp
      exact hp
  · skip
    refine xp_iconst (v := 0) d_M_value_7 (by decide) ?_
    refine xp_goto (tgt := 52) d_M_value_8 (by decide) ?_
    refine xp_ireturn d_M_value_52 rfl rfl ?_
    simp only [if_pos c4] at hp
    exact hp
end part100
