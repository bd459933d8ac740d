theorem k_within_nI {x a b : Int32} {A B : Nat} (ha : a.toInt = A) (hb : b.toInt = B) (h : ¬ k_within x a b = 0) : ∃ j : Nat, A ≤ j ∧ j ≤ B ∧ x = nI j := by
  unfold k_within at h
  have h1 : ¬ x < a := fun q => h (if_pos q)
  rw [if_neg h1] at h
  have h2 : ¬ b < x := fun q => h (if_pos q)
  rw [Int32.lt_iff_toInt_lt, ha] at h1
  rw [Int32.lt_iff_toInt_lt, hb] at h2
  have h0 : ¬ x < 0 := by
    rw [Int32.lt_iff_toInt_lt, Int32.toInt_zero]
    omega
  obtain ⟨j, hj, rfl⟩ := nI_of h0
  rw [nI_toInt hj] at h1 h2
  exact ⟨j, by omega, by omega, rfl⟩
theorem k_lev {l : Int32} (h : ¬ k_within l 1 16 = 0) : ∃ j : Nat, j < 16 ∧ l = nI (j + 1) ∧ l - 1 = nI j := by
  obtain ⟨j, h1, h2, rfl⟩ := k_within_nI (A := 1) (B := 16) (by decide) (by decide) h
  obtain ⟨k, rfl⟩ : ∃ k, j = k + 1 := ⟨j - 1, by omega⟩
  exact ⟨k, by omega, rfl, nI_pred k⟩
def k_settle (I : Nat → Nat → Int32) (r : Nat) (d v : Int32) : Nat → Nat → Int32 := x_up (x_up (x_up I r 8 1) r 9 d) r 10 (if d = 0 then 0 else v)
def k_try (I : Nat → Nat → Int32) (r : Nat) : Nat → Nat → Int32 := if x_up I r 7 (I r 7 + 1) r 7 < 3 then x_up I r 7 (I r 7 + 1) else x_up (x_up I r 7 (I r 7 + 1)) r 6 3
def k_renew (I : Nat → Nat → Int32) (s : Nat) (v : Int32) : Nat → Nat → Int32 := x_up (x_up I s 2 v) s 3 0
def k_begin (I : Nat → Nat → Int32) (s : Nat) (n ob v : Int32) : Nat → Nat → Int32 := k_renew (x_up (x_up I s 0 n) s 1 ob) s v
def k_far (v w : Int32) : Int32 := if lg_cmp (if 0 < v.toInt64 - w.toInt64 then v.toInt64 - w.toInt64 else -(v.toInt64 - w.toInt64)) 10 < 0 then 0 else 1
def k_isF (fl : Nat → Int32) (l : Int32) : Int32 := if k_within l 1 16 = 0 then 0 else if fl (l - 1).toNatClampNeg = 0 then 0 else 1
def k_num (nu fl : Nat → Int32) (l : Int32) : Int32 := if k_isF fl l = 0 then 0 else nu (l - 1).toNatClampNeg
def k_fill (I : Nat → Nat → Int32) (na fl : Nat) (l v : Int32) : Nat → Nat → Int32 := if k_within l 1 16 = 0 then I else x_up (x_up I na (l - 1).toNatClampNeg v) fl (l - 1).toNatClampNeg 1
def k_rel (I : Nat → Nat → Int32) (fl : Nat) (l : Int32) : Nat → Nat → Int32 := if k_within l 1 16 = 0 then I else x_up I fl (l - 1).toNatClampNeg 0
def k_cur (nu fl : Nat → Int32) : Nat → Nat → Int32
  | 0, _ => 0
  | n + 1, k => if fl k = 0 then k_cur nu fl n (k + 1) else nu k
def k_tune (I : Nat → Nat → Int32) (l : Nat) (p i : Int32) : Nat → Nat → Int32 := x_up (x_up (x_up I l 1 p) l 2 i) l 3 0
def k_aim (I : Nat → Nat → Int32) (l : Nat) (v : Int32) : Nat → Nat → Int32 := if k_within v (-10000) 10000 = 0 then I else x_up I l 0 v
def k_off (I : Nat → Nat → Int32) (l : Nat) : Int32 := if I l 1 = 0 then (if I l 2 = 0 then 1 else 0) else 0
def k_sum (I : Nat → Nat → Int32) (l : Nat) (inp : Int32) : Nat → Nat → Int32 := x_up I l 3 (k_held (I l 3 + (I l 0 - inp)) 10000)
def k_ctl (I : Nat → Nat → Int32) (l : Nat) (inp : Int32) : Int32 := k_held (k_fdiv (k_sum I l inp l 1 * (I l 0 - inp) + k_sum I l inp l 2 * k_sum I l inp l 3) 16) 1000
theorem k_isF_01 (fl : Nat → Int32) (l : Int32) : k_isF fl l = 0 ∨ k_isF fl l = 1 := by
  unfold k_isF
  by_cases h1 : k_within l 1 16 = 0
  · exact Or.inl (if_pos h1)
  · rw [if_neg h1]
    by_cases h2 : fl (l - 1).toNatClampNeg = 0
    · exact Or.inl (if_pos h2)
    · exact Or.inr (if_neg h2)
theorem k_off_01 (I : Nat → Nat → Int32) (l : Nat) : k_off I l = 0 ∨ k_off I l = 1 := by
  unfold k_off
  by_cases h1 : I l 1 = 0
  · rw [if_pos h1]
    by_cases h2 : I l 2 = 0
    · exact Or.inr (if_pos h2)
    · exact Or.inl (if_neg h2)
  · exact Or.inl (if_neg h1)
theorem k_isF_ix {fl : Nat → Int32} {l : Int32} (h : ¬ k_isF fl l = 0) : ¬ k_within l 1 16 = 0 := fun q => h (if_pos q)
section part82
variable {G : xG} {z : Nat} {I : Nat → Nat → Int32} {P : Nat → Nat → Option Nat} {post : Option Value → xH → Prop}
set_option maxRecDepth 100000 in
set_option maxHeartbeats 4000000 in
theorem c_R_settle {r : Nat} {d v : Int32} (hr : x_at 2 z r) (hd : d = 0 ∨ d = 1) (hp : post none (z, k_settle I r d v, P)) : xp G M_R_settle 0 [(0, .ref r), (1, .int d), (2, .int v)] [] (z, I, P) 0 0 post := by
  unfold k_settle at hp
  refine xp_aload_n d_R_settle_0 rfl ?_
  refine xp_iconst (v := 1) d_R_settle_1 (by decide) ?_
  refine xq_putZ d_R_settle_2 f_R_33 (by first | exact Or.inl rfl | exact Or.inr rfl | assumption) (by assumption) ?_
  refine xp_aload_n d_R_settle_5 rfl ?_
  refine xp_iload_n d_R_settle_6 rfl ?_
  refine xq_putZ d_R_settle_7 f_R_37 (by first | exact Or.inl rfl | exact Or.inr rfl | assumption) (by assumption) ?_
  refine xp_aload_n d_R_settle_10 rfl ?_
  refine xp_iload_n d_R_settle_11 rfl ?_
  refine xp_if_eq (tgt := 19) d_R_settle_12 (by decide) (fun c12 => ?_) (fun c12 => ?_)
  · skip
    refine xp_iconst (v := 0) d_R_settle_19 (by decide) ?_
    refine xq_putI d_R_settle_20 f_R_40 (by assumption) ?_
    refine xp_return_ d_R_settle_23 rfl ?_
    rw [if_pos c12] at hp
    exact hp
  · skip
    refine xp_iload_n d_R_settle_15 rfl ?_
    refine xp_goto (tgt := 20) d_R_settle_16 (by decide) ?_
    refine xq_putI d_R_settle_20 f_R_40 (by assumption) ?_
    refine xp_return_ d_R_settle_23 rfl ?_
    rw [if_neg c12] at hp
    exact hp
set_option maxRecDepth 100000 in
set_option maxHeartbeats 4000000 in
theorem c_R_countTry {r : Nat} (hr : x_at 2 z r) (hp : post none (z, k_try I r, P)) : xp G M_R_countTry 0 [(0, .ref r)] [] (z, I, P) 0 0 post := by
  unfold k_try at hp
  refine xp_aload_n d_R_countTry_0 rfl ?_
  refine xp_dup d_R_countTry_1 rfl ?_
  refine xq_getI d_R_countTry_2 fg_R_43 (by assumption) ?_
  refine xp_iconst (v := 1) d_R_countTry_5 (by decide) ?_
  refine xp_iadd d_R_countTry_6 ?_
  refine xq_putI d_R_countTry_7 f_R_43 (by assumption) ?_
  refine xp_aload_n d_R_countTry_10 rfl ?_
  refine xq_getI d_R_countTry_11 fg_R_43 (by assumption) ?_
  refine xp_iconst (v := 3) d_R_countTry_14 (by decide) ?_
  refine xp_icmp_lt (tgt := 23) d_R_countTry_15 (by decide) (fun c15 => ?_) (fun c15 => ?_)
  · skip
    refine xp_return_ d_R_countTry_23 rfl ?_
    rw [if_pos c15] at hp
    exact hp
  · skip
    refine xp_aload_n d_R_countTry_18 rfl ?_
    refine xp_iconst (v := 3) d_R_countTry_19 (by decide) ?_
    refine xq_putI d_R_countTry_20 f_R_9 (by assumption) ?_
    refine xp_return_ d_R_countTry_23 rfl ?_
    rw [if_neg c15] at hp
    exact hp
set_option maxRecDepth 100000 in
set_option maxHeartbeats 4000000 in
theorem c_S_renew {s : Nat} {v : Int32} (hs : x_at 3 z s) (hp : post none (z, k_renew I s v, P)) : xp G M_S_renew 0 [(0, .ref s), (1, .int v)] [] (z, I, P) 0 0 post := by
  refine xp_aload_n d_S_renew_0 rfl ?_
  refine xp_iload_n d_S_renew_1 rfl ?_
  refine xq_putI d_S_renew_2 f_S_22 (by assumption) ?_
  refine xp_aload_n d_S_renew_5 rfl ?_
  refine xp_iconst (v := 0) d_S_renew_6 (by decide) ?_
  refine xq_putZ d_S_renew_7 f_S_25 (by first | exact Or.inl rfl | exact Or.inr rfl | assumption) (by assumption) ?_
  refine xp_return_ d_S_renew_10 rfl ?_
  exact hp
set_option maxRecDepth 100000 in
set_option maxHeartbeats 4000000 in
theorem c_S_begin {s : Nat} {n ob v : Int32} (hs : x_at 3 z s) (hp : post none (z, k_begin I s n ob v, P)) : xp G M_S_begin 0 [(0, .ref s), (1, .int n), (2, .int ob), (3, .int v)] [] (z, I, P) 0 0 post := by
  refine xp_aload_n d_S_begin_0 rfl ?_
  refine xp_iload_n d_S_begin_1 rfl ?_
  refine xq_putI d_S_begin_2 f_S_9 (by assumption) ?_
  refine xp_aload_n d_S_begin_5 rfl ?_
  refine xp_iload_n d_S_begin_6 rfl ?_
  refine xq_putI d_S_begin_7 f_S_15 (by assumption) ?_
  refine xp_aload_n d_S_begin_10 rfl ?_
  refine xp_iload_n d_S_begin_11 rfl ?_
  refine xq_V1v d_S_begin_12 g_S_begin_18 (by assumption) rfl rfl ?_
  refine c_S_renew hs ?_
  refine ⟨rfl, ?_⟩
  refine xp_return_ d_S_begin_15 rfl ?_
  exact hp
set_option maxRecDepth 100000 in
set_option maxHeartbeats 4000000 in
theorem c_S_compare {s : Nat} {v : Int32} (hs : x_at 3 z s) (hp : post none (z, x_up I s 3 (k_far v (I s 2)), P)) : xp G M_S_compare 0 [(0, .ref s), (1, .int v)] [] (z, I, P) 0 0 post := by
  unfold k_far at hp
  refine xp_aload_n d_S_compare_0 rfl ?_
  refine xp_iload_n d_S_compare_1 rfl ?_
  refine xp_i2l d_S_compare_2 ?_
  refine xp_aload_n d_S_compare_3 rfl ?_
  refine xq_getI d_S_compare_4 fg_S_22 (by assumption) ?_
  refine xp_i2l d_S_compare_7 ?_
  refine xp_lsub d_S_compare_8 ?_
  refine xp_labs d_S_compare_9 g_S_compare_29 ⟨Nat.le_of_ble_eq_true rfl, Nat.le_of_ble_eq_true rfl⟩ ?_
  refine xp_ldc2 d_S_compare_12 ct_S_35 ?_
  refine xp_lcmp d_S_compare_15 ?_
  refine xp_if_lt (tgt := 23) d_S_compare_16 (by decide) (fun c16 => ?_) (fun c16 => ?_)
  · skip
    refine xp_iconst (v := 0) d_S_compare_23 (by decide) ?_
    refine xq_putZ d_S_compare_24 f_S_25 (by first | exact Or.inl rfl | exact Or.inr rfl | assumption) (by assumption) ?_
    refine xp_return_ d_S_compare_27 rfl ?_
    rw [if_pos c16] at hp
    exact hp
  · skip
    refine xp_iconst (v := 1) d_S_compare_19 (by decide) ?_
    refine xp_goto (tgt := 24) d_S_compare_20 (by decide) ?_
    refine xq_putZ d_S_compare_24 f_S_25 (by first | exact Or.inl rfl | exact Or.inr rfl | assumption) (by assumption) ?_
    refine xp_return_ d_S_compare_27 rfl ?_
    rw [if_neg c16] at hp
    exact hp
set_option maxRecDepth 100000 in
set_option maxHeartbeats 4000000 in
theorem c_O_isFilled {ou na fl : Nat} (ho : x_at 4 z ou) (hn : x_ar 100 16 z na) (hl : x_ar 101 16 z fl) (h0 : P ou 0 = some na) (h1 : P ou 1 = some fl) {l : Int32} (hp : post (some (.int (k_isF (I fl) l))) (z, I, P)) : xp G M_O_isFilled 0 [(0, .ref ou), (1, .int l)] [] (z, I, P) 0 0 post := by
  unfold k_isF at hp
  refine xp_iload_n d_O_isFilled_0 rfl ?_
  refine xp_iconst (v := 1) d_O_isFilled_1 (by decide) ?_
  refine xp_bipush (v := 16) d_O_isFilled_2 (by decide) ?_
  refine xq_N3r d_O_isFilled_4 g_O_isFilled_19 rfl rfl ?_
  refine c_B_isWithin ?_
  refine ⟨_, rfl, ?_⟩
  refine xp_if_eq (tgt := 25) d_O_isFilled_7 (by decide) (fun c7 => ?_) (fun c7 => ?_)
  · skip
    refine xp_iconst (v := 0) d_O_isFilled_25 (by decide) ?_
    refine xp_ireturn d_O_isFilled_26 rfl (x_bit (by first | exact Or.inl rfl | exact Or.inr rfl | assumption)).1 ?_
    rw [if_pos c7] at hp
    exact hp
  · skip
    obtain ⟨j, hj, hj1, hj2⟩ := k_lev c7
    rw [hj2, nI_clamp (by omega)] at hp
    refine xp_aload_n d_O_isFilled_10 rfl ?_
    refine xq_getR d_O_isFilled_11 fg_O_15 (by assumption) (by assumption) ?_
    refine xp_iload_n d_O_isFilled_14 rfl ?_
    refine xp_iconst (v := 1) d_O_isFilled_15 (by decide) ?_
    refine xp_isub d_O_isFilled_16 ?_
    refine xq_baload d_O_isFilled_17 (by assumption) hj2 hj (by decide) ?_
    refine xp_if_eq (tgt := 25) d_O_isFilled_18 (by decide) (fun c18 => ?_) (fun c18 => ?_)
    · skip
      refine xp_iconst (v := 0) d_O_isFilled_25 (by decide) ?_
      refine xp_ireturn d_O_isFilled_26 rfl (x_bit (by first | exact Or.inl rfl | exact Or.inr rfl | assumption)).1 ?_
      rw [if_neg c7, if_pos c18] at hp
      exact hp
    · skip
      refine xp_iconst (v := 1) d_O_isFilled_21 (by decide) ?_
      refine xp_goto (tgt := 26) d_O_isFilled_22 (by decide) ?_
      refine xp_ireturn d_O_isFilled_26 rfl (x_bit (by first | exact Or.inl rfl | exact Or.inr rfl | assumption)).1 ?_
      rw [if_neg c7, if_neg c18] at hp
      exact hp
set_option maxRecDepth 100000 in
set_option maxHeartbeats 4000000 in
theorem c_O_numberAt {ou na fl : Nat} (ho : x_at 4 z ou) (hn : x_ar 100 16 z na) (hl : x_ar 101 16 z fl) (h0 : P ou 0 = some na) (h1 : P ou 1 = some fl) {l : Int32} (hp : post (some (.int (k_num (I na) (I fl) l))) (z, I, P)) : xp G M_O_numberAt 0 [(0, .ref ou), (1, .int l)] [] (z, I, P) 0 0 post := by
  unfold k_num at hp
  refine xp_aload_n d_O_numberAt_0 rfl ?_
  refine xp_iload_n d_O_numberAt_1 rfl ?_
  refine xq_V1r d_O_numberAt_2 g_O_numberAt_23 (by assumption) rfl rfl ?_
  refine c_O_isFilled ho hn hl h0 h1 ?_
  refine ⟨_, rfl, ?_⟩
  refine xp_if_eq (tgt := 19) d_O_numberAt_5 (by decide) (fun c5 => ?_) (fun c5 => ?_)
  · skip
    refine xp_iconst (v := 0) d_O_numberAt_19 (by decide) ?_
    refine xp_ireturn d_O_numberAt_20 rfl rfl ?_
    rw [if_pos c5] at hp
    exact hp
  · skip
    obtain ⟨j, hj, hj1, hj2⟩ := k_lev (k_isF_ix c5)
    rw [hj2, nI_clamp (by omega)] at hp
    refine xp_aload_n d_O_numberAt_8 rfl ?_
    refine xq_getR d_O_numberAt_9 fg_O_9 (by assumption) (by assumption) ?_
    refine xp_iload_n d_O_numberAt_12 rfl ?_
    refine xp_iconst (v := 1) d_O_numberAt_13 (by decide) ?_
    refine xp_isub d_O_numberAt_14 ?_
    refine xq_iaload d_O_numberAt_15 (by assumption) hj2 hj (by decide) ?_
    refine xp_goto (tgt := 20) d_O_numberAt_16 (by decide) ?_
    refine xp_ireturn d_O_numberAt_20 rfl rfl ?_
    rw [if_neg c5] at hp
    exact hp
set_option maxRecDepth 100000 in
set_option maxHeartbeats 4000000 in
theorem c_O_fill {ou na fl : Nat} (ho : x_at 4 z ou) (hn : x_ar 100 16 z na) (hl : x_ar 101 16 z fl) (h0 : P ou 0 = some na) (h1 : P ou 1 = some fl) {l v : Int32} (hp : post (some (.int (k_within l 1 16))) (z, k_fill I na fl l v, P)) : xp G M_O_fill 0 [(0, .ref ou), (1, .int l), (2, .int v)] [] (z, I, P) 0 0 post := by
  unfold k_fill at hp
  refine xp_iload_n d_O_fill_0 rfl ?_
  refine xp_iconst (v := 1) d_O_fill_1 (by decide) ?_
  refine xp_bipush (v := 16) d_O_fill_2 (by decide) ?_
  refine xq_N3r d_O_fill_4 g_O_fill_19 rfl rfl ?_
  refine c_B_isWithin ?_
  refine ⟨_, rfl, ?_⟩
  refine xp_if_ne (tgt := 12) d_O_fill_7 (by decide) (fun c7 => ?_) (fun c7 => ?_)
  · skip
    obtain ⟨j, hj, hj1, hj2⟩ := k_lev c7
    rw [hj2, nI_clamp (by omega)] at hp
    refine xp_aload_n d_O_fill_12 rfl ?_
    refine xq_getR d_O_fill_13 fg_O_9 (by assumption) (by assumption) ?_
    refine xp_iload_n d_O_fill_16 rfl ?_
    refine xp_iconst (v := 1) d_O_fill_17 (by decide) ?_
    refine xp_isub d_O_fill_18 ?_
    refine xp_iload_n d_O_fill_19 rfl ?_
    refine xq_iastore d_O_fill_20 (by assumption) hj2 hj (by decide) ?_
    refine xp_aload_n d_O_fill_21 rfl ?_
    refine xq_getR d_O_fill_22 fg_O_15 (by assumption) (by assumption) ?_
    refine xp_iload_n d_O_fill_25 rfl ?_
    refine xp_iconst (v := 1) d_O_fill_26 (by decide) ?_
    refine xp_isub d_O_fill_27 ?_
    refine xp_iconst (v := 1) d_O_fill_28 (by decide) ?_
    refine xq_bastore d_O_fill_29 (by assumption) hj2 hj (by decide) (by first | exact Or.inl rfl | exact Or.inr rfl | assumption) ?_
    refine xp_iconst (v := 1) d_O_fill_30 (by decide) ?_
    refine xp_ireturn d_O_fill_31 rfl (x_bit (by first | exact Or.inl rfl | exact Or.inr rfl | assumption)).1 ?_
    have e1 : k_within l 1 16 = 1 := (k_within_01 l 1 16).resolve_left c7
    rw [if_neg c7, e1] at hp
    exact hp
  · skip
    refine xp_iconst (v := 0) d_O_fill_10 (by decide) ?_
    refine xp_ireturn d_O_fill_11 rfl (x_bit (by first | exact Or.inl rfl | exact Or.inr rfl | assumption)).1 ?_
    rw [if_pos c7, c7] at hp
    exact hp
set_option maxRecDepth 100000 in
set_option maxHeartbeats 4000000 in
theorem c_O_release {ou na fl : Nat} (ho : x_at 4 z ou) (hn : x_ar 100 16 z na) (hl : x_ar 101 16 z fl) (h0 : P ou 0 = some na) (h1 : P ou 1 = some fl) {l : Int32} (hp : post (some (.int (k_within l 1 16))) (z, k_rel I fl l, P)) : xp G M_O_release 0 [(0, .ref ou), (1, .int l)] [] (z, I, P) 0 0 post := by
  unfold k_rel at hp
  refine xp_iload_n d_O_release_0 rfl ?_
  refine xp_iconst (v := 1) d_O_release_1 (by decide) ?_
  refine xp_bipush (v := 16) d_O_release_2 (by decide) ?_
  refine xq_N3r d_O_release_4 g_O_release_19 rfl rfl ?_
  refine c_B_isWithin ?_
  refine ⟨_, rfl, ?_⟩
  refine xp_if_ne (tgt := 12) d_O_release_7 (by decide) (fun c7 => ?_) (fun c7 => ?_)
  · skip
    obtain ⟨j, hj, hj1, hj2⟩ := k_lev c7
    rw [hj2, nI_clamp (by omega)] at hp
    refine xp_aload_n d_O_release_12 rfl ?_
    refine xq_getR d_O_release_13 fg_O_15 (by assumption) (by assumption) ?_
    refine xp_iload_n d_O_release_16 rfl ?_
    refine xp_iconst (v := 1) d_O_release_17 (by decide) ?_
    refine xp_isub d_O_release_18 ?_
    refine xp_iconst (v := 0) d_O_release_19 (by decide) ?_
    refine xq_bastore d_O_release_20 (by assumption) hj2 hj (by decide) (by first | exact Or.inl rfl | exact Or.inr rfl | assumption) ?_
    refine xp_iconst (v := 1) d_O_release_21 (by decide) ?_
    refine xp_ireturn d_O_release_22 rfl (x_bit (by first | exact Or.inl rfl | exact Or.inr rfl | assumption)).1 ?_
    have e1 : k_within l 1 16 = 1 := (k_within_01 l 1 16).resolve_left c7
    rw [if_neg c7, e1] at hp
    exact hp
  · skip
    refine xp_iconst (v := 0) d_O_release_10 (by decide) ?_
    refine xp_ireturn d_O_release_11 rfl (x_bit (by first | exact Or.inl rfl | exact Or.inr rfl | assumption)).1 ?_
    rw [if_pos c7, c7] at hp
    exact hp
set_option maxRecDepth 100000 in
set_option maxHeartbeats 4000000 in
theorem l_O_current_2 {ou na fl : Nat} (ho : x_at 4 z ou) (hn : x_ar 100 16 z na) (hl : x_ar 101 16 z fl) (h0 : P ou 0 = some na) (h1 : P ou 1 = some fl) : ∀ n k : Nat, n + k = 16 → (post (some (.int (k_cur (I na) (I fl) n k))) (z, I, P)) → xp G M_O_current 2 [(0, .ref ou), (1, .int (nI k))] [] (z, I, P) 0 0 post := by
  intro n
  induction n with
  | zero =>
    intro k hk hp
    refine xp_iload_n d_O_current_2 rfl ?_
    refine xp_bipush (v := 16) d_O_current_3 (by decide) ?_
    refine xp_icmp_ge (tgt := 30) d_O_current_5 (by decide) (fun c5 => ?_) (fun c5 => absurd (show (16 : Int32) ≤ nI k by rw [show k = 16 by omega]; decide) c5)
    refine xp_iconst (v := 0) d_O_current_30 (by decide) ?_
    refine xp_ireturn d_O_current_31 rfl rfl ?_
    exact hp
  | succ n ih =>
    intro k hk hp
    unfold k_cur at hp
    refine xp_iload_n d_O_current_2 rfl ?_
    refine xp_bipush (v := 16) d_O_current_3 (by decide) ?_
    refine xp_icmp_ge (tgt := 30) d_O_current_5 (by decide) (fun c5 => absurd c5 (fun q => by have := (nI_leI (a := 16) (b := k) (by decide) (by omega)).mp q; omega)) (fun c5 => ?_)
    refine xp_aload_n d_O_current_8 rfl ?_
    refine xq_getR d_O_current_9 fg_O_15 (by assumption) (by assumption) ?_
    refine xp_iload_n d_O_current_12 rfl ?_
    refine xq_baload d_O_current_13 (by assumption) rfl (by omega) (by decide) ?_
    refine xp_if_eq (tgt := 24) d_O_current_14 (by decide) (fun c14 => ?_) (fun c14 => ?_)
    · skip
      refine xp_inc1 d_O_current_24 rfl (by decide) ?_
      refine xp_goto (tgt := 2) d_O_current_27 (by decide) ?_
      refine xp_loc (lv' := [(0, .ref ou), (1, .int (nI (k + 1)))]) ⟨rfl, rfl, trivial⟩ ?_
      rw [if_pos c14] at hp
      exact ih (k + 1) (by omega) hp
    · skip
      refine xp_aload_n d_O_current_17 rfl ?_
      refine xq_getR d_O_current_18 fg_O_9 (by assumption) (by assumption) ?_
      refine xp_iload_n d_O_current_21 rfl ?_
      refine xq_iaload d_O_current_22 (by assumption) rfl (by omega) (by decide) ?_
      refine xp_ireturn d_O_current_23 rfl rfl ?_
      rw [if_neg c14] at hp
      exact hp
set_option maxRecDepth 100000 in
set_option maxHeartbeats 4000000 in
theorem c_O_current {ou na fl : Nat} (ho : x_at 4 z ou) (hn : x_ar 100 16 z na) (hl : x_ar 101 16 z fl) (h0 : P ou 0 = some na) (h1 : P ou 1 = some fl) (hp : post (some (.int (k_cur (I na) (I fl) 16 0))) (z, I, P)) : xp G M_O_current 0 [(0, .ref ou)] [] (z, I, P) 0 0 post := by
  refine xp_iconst (v := 0) d_O_current_0 (by decide) ?_
  refine xp_istore_n d_O_current_1 (by decide) ?_
  refine xp_loc (lv' := [(0, .ref ou), (1, .int (nI 0))]) ⟨rfl, rfl, trivial⟩ ?_
  exact l_O_current_2 ho hn hl h0 h1 16 0 rfl hp
set_option maxRecDepth 100000 in
set_option maxHeartbeats 4000000 in
theorem c_L_tune {lo : Nat} (hl : x_at 5 z lo) {p i : Int32} (hp : post none (z, k_tune I lo p i, P)) : xp G M_L_tune 0 [(0, .ref lo), (1, .int p), (2, .int i)] [] (z, I, P) 0 0 post := by
  refine xp_aload_n d_L_tune_0 rfl ?_
  refine xp_iload_n d_L_tune_1 rfl ?_
  refine xq_putI d_L_tune_2 f_L_9 (by assumption) ?_
  refine xp_aload_n d_L_tune_5 rfl ?_
  refine xp_iload_n d_L_tune_6 rfl ?_
  refine xq_putI d_L_tune_7 f_L_15 (by assumption) ?_
  refine xp_aload_n d_L_tune_10 rfl ?_
  refine xp_iconst (v := 0) d_L_tune_11 (by decide) ?_
  refine xq_putI d_L_tune_12 f_L_18 (by assumption) ?_
  refine xp_return_ d_L_tune_15 rfl ?_
  exact hp
set_option maxRecDepth 100000 in
set_option maxHeartbeats 4000000 in
theorem c_L_aim {lo : Nat} (hl : x_at 5 z lo) {v : Int32} (hp : post (some (.int (k_within v (-10000) 10000))) (z, k_aim I lo v, P)) : xp G M_L_aim 0 [(0, .ref lo), (1, .int v)] [] (z, I, P) 0 0 post := by
  unfold k_aim at hp
  refine xp_iload_n d_L_aim_0 rfl ?_
  refine xp_sipush (v := -10000) d_L_aim_1 (by decide) ?_
  refine xp_sipush (v := 10000) d_L_aim_4 (by decide) ?_
  refine xq_N3r d_L_aim_7 g_L_aim_21 rfl rfl ?_
  refine c_B_isWithin ?_
  refine ⟨_, rfl, ?_⟩
  refine xp_if_ne (tgt := 15) d_L_aim_10 (by decide) (fun c10 => ?_) (fun c10 => ?_)
  · skip
    refine xp_aload_n d_L_aim_15 rfl ?_
    refine xp_iload_n d_L_aim_16 rfl ?_
    refine xq_putI d_L_aim_17 f_L_25 (by assumption) ?_
    refine xp_iconst (v := 1) d_L_aim_20 (by decide) ?_
    refine xp_ireturn d_L_aim_21 rfl (x_bit (by first | exact Or.inl rfl | exact Or.inr rfl | assumption)).1 ?_
    have e1 : k_within v (-10000) 10000 = 1 := (k_within_01 _ _ _).resolve_left c10
    rw [if_neg c10, e1] at hp
    exact hp
  · skip
    refine xp_iconst (v := 0) d_L_aim_13 (by decide) ?_
    refine xp_ireturn d_L_aim_14 rfl (x_bit (by first | exact Or.inl rfl | exact Or.inr rfl | assumption)).1 ?_
    rw [if_pos c10, c10] at hp
    exact hp
set_option maxRecDepth 100000 in
set_option maxHeartbeats 4000000 in
theorem c_L_isOff {lo : Nat} (hl : x_at 5 z lo) (hp : post (some (.int (k_off I lo))) (z, I, P)) : xp G M_L_isOff 0 [(0, .ref lo)] [] (z, I, P) 0 0 post := by
  unfold k_off at hp
  refine xp_aload_n d_L_isOff_0 rfl ?_
  refine xq_getI d_L_isOff_1 fg_L_9 (by assumption) ?_
  refine xp_if_ne (tgt := 18) d_L_isOff_4 (by decide) (fun c4 => ?_) (fun c4 => ?_)
  · skip
    refine xp_iconst (v := 0) d_L_isOff_18 (by decide) ?_
    refine xp_ireturn d_L_isOff_19 rfl (x_bit (by first | exact Or.inl rfl | exact Or.inr rfl | assumption)).1 ?_
    rw [if_neg c4] at hp
    exact hp
  · skip
    refine xp_aload_n d_L_isOff_7 rfl ?_
    refine xq_getI d_L_isOff_8 fg_L_15 (by assumption) ?_
    refine xp_if_ne (tgt := 18) d_L_isOff_11 (by decide) (fun c11 => ?_) (fun c11 => ?_)
    · skip
      refine xp_iconst (v := 0) d_L_isOff_18 (by decide) ?_
      refine xp_ireturn d_L_isOff_19 rfl (x_bit (by first | exact Or.inl rfl | exact Or.inr rfl | assumption)).1 ?_
      rw [if_pos c4, if_neg c11] at hp
      exact hp
    · skip
      refine xp_iconst (v := 1) d_L_isOff_14 (by decide) ?_
      refine xp_goto (tgt := 19) d_L_isOff_15 (by decide) ?_
      refine xp_ireturn d_L_isOff_19 rfl (x_bit (by first | exact Or.inl rfl | exact Or.inr rfl | assumption)).1 ?_
      rw [if_pos c4, if_pos c11] at hp
      exact hp
set_option maxRecDepth 100000 in
set_option maxHeartbeats 4000000 in
theorem c_L_control {lo : Nat} (hl : x_at 5 z lo) {v : Int32} (hp : post (some (.int (k_ctl I lo v))) (z, k_sum I lo v, P)) : xp G M_L_control 0 [(0, .ref lo), (1, .int v)] [] (z, I, P) 0 0 post := by
  refine xp_aload_n d_L_control_0 rfl ?_
  refine xq_getI d_L_control_1 fg_L_25 (by assumption) ?_
  refine xp_iload_n d_L_control_4 rfl ?_
  refine xp_isub d_L_control_5 ?_
  refine xp_istore_n d_L_control_6 (by decide) ?_
  refine xp_aload_n d_L_control_7 rfl ?_
  refine xp_aload_n d_L_control_8 rfl ?_
  refine xq_getI d_L_control_9 fg_L_18 (by assumption) ?_
  refine xp_iload_n d_L_control_12 rfl ?_
  refine xp_iadd d_L_control_13 ?_
  refine xp_sipush (v := 10000) d_L_control_14 (by decide) ?_
  refine xq_N2r d_L_control_17 g_L_control_28 rfl rfl ?_
  refine c_B_held ?_
  refine ⟨_, rfl, ?_⟩
  refine xq_putI d_L_control_20 f_L_18 (by assumption) ?_
  refine xp_aload_n d_L_control_23 rfl ?_
  refine xq_getI d_L_control_24 fg_L_9 (by assumption) ?_
  refine xp_iload_n d_L_control_27 rfl ?_
  refine xp_imul d_L_control_28 ?_
  refine xp_aload_n d_L_control_29 rfl ?_
  refine xq_getI d_L_control_30 fg_L_15 (by assumption) ?_
  refine xp_aload_n d_L_control_33 rfl ?_
  refine xq_getI d_L_control_34 fg_L_18 (by assumption) ?_
  refine xp_imul d_L_control_37 ?_
  refine xp_iadd d_L_control_38 ?_
  refine xp_bipush (v := 16) d_L_control_39 (by decide) ?_
  refine xq_S2r d_L_control_41 g_L_control_32 rfl rfl ?_
  refine c_J_floorDiv (by decide) ?_
  refine ⟨_, rfl, ?_⟩
  refine xp_sipush (v := 1000) d_L_control_44 (by decide) ?_
  refine xq_N2r d_L_control_47 g_L_control_28 rfl rfl ?_
  refine c_B_held ?_
  refine ⟨_, rfl, ?_⟩
  refine xp_ireturn d_L_control_50 rfl rfl ?_
  exact hp
end part82
