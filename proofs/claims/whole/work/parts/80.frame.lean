theorem xp_inc1 {G : xG} {M : xM} {pc : Nat} {lv : List (Nat × Value)} {st : List Value} {h : xH} {bc bs : Nat} {post : Option Value → xH → Prop} {i n : Nat} (hd : decode M.2.1 pc = .ok (.iinc i 1, 3)) (hx : List.lookup i lv = some (.int (nI n))) (hn : i < M.2.2.1) (kk : xp G M (pc + 3) (x_set lv i (.int (nI (n + 1)))) st h bc bs post) : xp G M pc lv st h bc bs post :=
  xp_iinc hd hx hn (by rw [show nI n + Int32.ofInt 1 = nI (n + 1) from (nI_succ n).symm]; exact kk)
/-! results of the small methods, as their code has them -/
def k_within (a b c : Int32) : Int32 := if a < b then 0 else if c < a then 0 else 1
def k_behind (n : Int32) : Int32 := if 6 ≤ n + 1 then 0 else n + 1
def k_held (x b : Int32) : Int32 := if -b < (if x < b then x else b) then (if x < b then x else b) else -b
def k_fdiv (x y : Int32) : Int32 := if 0 ≤ x ^^^ y then x / y else if x / y * y = x then x / y else x / y - 1
theorem k_within_01 (a b c : Int32) : k_within a b c = 0 ∨ k_within a b c = 1 := by
  unfold k_within
  by_cases h1 : a < b
  · exact Or.inl (if_pos h1)
  · rw [if_neg h1]
    by_cases h2 : c < a
    · exact Or.inl (if_pos h2)
    · exact Or.inr (if_neg h2)
/-! one check: a bit, a byte, a row of bytes -/
def k_bit (mask b c : Int32) (k : Nat) : Int32 := if (c ^^^ (b >>> (nI k &&& 31))) &&& 1 = 0 then c >>> (1 &&& 31) else (c >>> (1 &&& 31)) ^^^ mask
def k_byte (mask b c : Int32) : Nat → Int32
  | 0 => c
  | k + 1 => k_bit mask b (k_byte mask b c k) k
def k_crc (mask : Int32) (f : Nat → Int32) (fr : Nat) (c : Int32) : Nat → Int32
  | 0 => c
  | k + 1 => k_byte mask (f (fr + k)) (k_crc mask f fr c k) 8
section part80
variable {G : xG} {z : Nat} {I : Nat → Nat → Int32} {P : Nat → Nat → Option Nat} {post : Option Value → xH → Prop}
set_option maxRecDepth 100000 in
set_option maxHeartbeats 4000000 in
theorem c_B_isWithin {a b c : Int32} (hp : post (some (.int (k_within a b c))) (z, I, P)) : xp G M_B_isWithin 0 [(0, .int a), (1, .int b), (2, .int c)] [] (z, I, P) 0 0 post := by
  unfold k_within at hp
  refine xp_iload_n d_B_isWithin_0 rfl ?_
  refine xp_iload_n d_B_isWithin_1 rfl ?_
  refine xp_icmp_lt (tgt := 14) d_B_isWithin_2 (by decide) (fun c2 => ?_) (fun c2 => ?_)
  · skip
    refine xp_iconst (v := 0) d_B_isWithin_14 (by decide) ?_
    refine xp_ireturn d_B_isWithin_15 rfl (x_bit (by first | exact Or.inl rfl | exact Or.inr rfl | assumption)).1 ?_
    rw [if_pos c2] at hp
    exact hp
  · skip
    refine xp_iload_n d_B_isWithin_5 rfl ?_
    refine xp_iload_n d_B_isWithin_6 rfl ?_
    refine xp_icmp_gt (tgt := 14) d_B_isWithin_7 (by decide) (fun c7 => ?_) (fun c7 => ?_)
    · skip
      refine xp_iconst (v := 0) d_B_isWithin_14 (by decide) ?_
      refine xp_ireturn d_B_isWithin_15 rfl (x_bit (by first | exact Or.inl rfl | exact Or.inr rfl | assumption)).1 ?_
      rw [if_neg c2, if_pos c7] at hp
      exact hp
    · skip
      refine xp_iconst (v := 1) d_B_isWithin_10 (by decide) ?_
      refine xp_goto (tgt := 15) d_B_isWithin_11 (by decide) ?_
      refine xp_ireturn d_B_isWithin_15 rfl (x_bit (by first | exact Or.inl rfl | exact Or.inr rfl | assumption)).1 ?_
      rw [if_neg c2, if_neg c7] at hp
      exact hp
set_option maxRecDepth 100000 in
set_option maxHeartbeats 4000000 in
theorem c_B_isNode {n : Int32} (hp : post (some (.int (k_within n 0 5))) (z, I, P)) : xp G M_B_isNode 0 [(0, .int n)] [] (z, I, P) 0 0 post := by
  have h01 := k_within_01 n 0 5
  refine xp_iload_n d_B_isNode_0 rfl ?_
  refine xp_iconst (v := 0) d_B_isNode_1 (by decide) ?_
  refine xp_iconst (v := 5) d_B_isNode_2 (by decide) ?_
  refine xq_S3r d_B_isNode_3 g_B_isNode_52 rfl rfl ?_
  refine c_B_isWithin ?_
  refine ⟨_, rfl, ?_⟩
  refine xp_ireturn d_B_isNode_6 rfl (x_bit (by first | exact Or.inl rfl | exact Or.inr rfl | assumption)).1 ?_
  exact hp
set_option maxRecDepth 100000 in
set_option maxHeartbeats 4000000 in
theorem c_B_behind {n : Int32} (hp : post (some (.int (k_behind n))) (z, I, P)) : xp G M_B_behind 0 [(0, .int n)] [] (z, I, P) 0 0 post := by
  unfold k_behind at hp
  refine xp_iload_n d_B_behind_0 rfl ?_
  refine xp_iconst (v := 1) d_B_behind_1 (by decide) ?_
  refine xp_iadd d_B_behind_2 ?_
  refine xp_bipush (v := 6) d_B_behind_3 (by decide) ?_
  refine xp_icmp_ge (tgt := 14) d_B_behind_5 (by decide) (fun c5 => ?_) (fun c5 => ?_)
  · skip
    refine xp_iconst (v := 0) d_B_behind_14 (by decide) ?_
    refine xp_ireturn d_B_behind_15 rfl rfl ?_
    rw [if_pos c5] at hp
    exact hp
  · skip
    refine xp_iload_n d_B_behind_8 rfl ?_
    refine xp_iconst (v := 1) d_B_behind_9 (by decide) ?_
    refine xp_iadd d_B_behind_10 ?_
    refine xp_goto (tgt := 15) d_B_behind_11 (by decide) ?_
    refine xp_ireturn d_B_behind_15 rfl rfl ?_
    rw [if_neg c5] at hp
    exact hp
set_option maxRecDepth 100000 in
set_option maxHeartbeats 4000000 in
theorem c_B_held {x b : Int32} (hp : post (some (.int (k_held x b))) (z, I, P)) : xp G M_B_held 0 [(0, .int x), (1, .int b)] [] (z, I, P) 0 0 post := by
  refine xp_iload_n d_B_held_0 rfl ?_
  refine xp_ineg d_B_held_1 ?_
  refine xp_iload_n d_B_held_2 rfl ?_
  refine xp_iload_n d_B_held_3 rfl ?_
  refine xp_mmin d_B_held_4 g_B_held_164 ⟨Nat.le_of_ble_eq_true rfl, Nat.le_of_ble_eq_true rfl⟩ ?_
  refine xp_mmax d_B_held_7 g_B_held_170 ⟨Nat.le_of_ble_eq_true rfl, Nat.le_of_ble_eq_true rfl⟩ ?_
  refine xp_ireturn d_B_held_10 rfl rfl ?_
  exact hp
set_option maxRecDepth 100000 in
set_option maxHeartbeats 4000000 in
theorem c_J_floorDiv {x y : Int32} (hy : ¬ y = 0) (hp : post (some (.int (k_fdiv x y))) (z, I, P)) : xp G M_J_floorDiv 0 [(0, .int x), (1, .int y)] [] (z, I, P) 0 0 post := by
  unfold k_fdiv at hp
  refine xp_iload_n d_J_floorDiv_0 rfl ?_
  refine xp_iload_n d_J_floorDiv_1 rfl ?_
  refine xp_idiv d_J_floorDiv_2 hy ?_
  refine xp_istore_n d_J_floorDiv_3 (by decide) ?_
  refine xp_iload_n d_J_floorDiv_4 rfl ?_
  refine xp_iload_n d_J_floorDiv_5 rfl ?_
  refine xp_ixor d_J_floorDiv_6 ?_
  refine xp_if_ge (tgt := 21) d_J_floorDiv_7 (by decide) (fun c7 => ?_) (fun c7 => ?_)
  · skip
    refine xp_iload_n d_J_floorDiv_21 rfl ?_
    refine xp_ireturn d_J_floorDiv_22 rfl rfl ?_
    rw [if_pos c7] at hp
    exact hp
  · skip
    refine xp_iload_n d_J_floorDiv_10 rfl ?_
    refine xp_iload_n d_J_floorDiv_11 rfl ?_
    refine xp_imul d_J_floorDiv_12 ?_
    refine xp_iload_n d_J_floorDiv_13 rfl ?_
    refine xp_icmp_eq (tgt := 21) d_J_floorDiv_14 (by decide) (fun c14 => ?_) (fun c14 => ?_)
    · skip
      refine xp_iload_n d_J_floorDiv_21 rfl ?_
      refine xp_ireturn d_J_floorDiv_22 rfl rfl ?_
      rw [if_neg c7, if_pos c14] at hp
      exact hp
    · skip
      refine xp_iload_n d_J_floorDiv_17 rfl ?_
      refine xp_iconst (v := 1) d_J_floorDiv_18 (by decide) ?_
      refine xp_isub d_J_floorDiv_19 ?_
      refine xp_ireturn d_J_floorDiv_20 rfl rfl ?_
      rw [if_neg c7, if_neg c14] at hp
      exact hp
set_option maxRecDepth 100000 in
set_option maxHeartbeats 4000000 in
theorem c_F_empty {fa : Nat} (hf : x_at 1 z fa) (hp : post none (z, x_up I fa 1 0, P)) : xp G M_F_empty 0 [(0, .ref fa)] [] (z, I, P) 0 0 post := by
  refine xp_aload_n d_F_empty_0 rfl ?_
  refine xp_iconst (v := 0) d_F_empty_1 (by decide) ?_
  refine xq_putI d_F_empty_2 f_F_15 (by assumption) ?_
  refine xp_return_ d_F_empty_5 rfl ?_
  exact hp
set_option maxRecDepth 100000 in
set_option maxHeartbeats 4000000 in
theorem c_F_planSpoiling {fa : Nat} {at_ mask : Int32} (hf : x_at 1 z fa) (hp : post none (z, x_up (x_up I fa 2 at_) fa 3 mask, P)) : xp G M_F_planSpoiling 0 [(0, .ref fa), (1, .int at_), (2, .int mask)] [] (z, I, P) 0 0 post := by
  refine xp_aload_n d_F_planSpoiling_0 rfl ?_
  refine xp_iload_n d_F_planSpoiling_1 rfl ?_
  refine xq_putI d_F_planSpoiling_2 f_F_19 (by assumption) ?_
  refine xp_aload_n d_F_planSpoiling_5 rfl ?_
  refine xp_iload_n d_F_planSpoiling_6 rfl ?_
  refine xq_putI d_F_planSpoiling_7 f_F_22 (by assumption) ?_
  refine xp_return_ d_F_planSpoiling_10 rfl ?_
  exact hp
set_option maxRecDepth 100000 in
set_option maxHeartbeats 4000000 in
theorem c_F_forgetSpoiling {fa : Nat} (hf : x_at 1 z fa) (hp : post none (z, x_up I fa 3 0, P)) : xp G M_F_forgetSpoiling 0 [(0, .ref fa)] [] (z, I, P) 0 0 post := by
  refine xp_aload_n d_F_forgetSpoiling_0 rfl ?_
  refine xp_iconst (v := 0) d_F_forgetSpoiling_1 (by decide) ?_
  refine xq_putI d_F_forgetSpoiling_2 f_F_22 (by assumption) ?_
  refine xp_return_ d_F_forgetSpoiling_5 rfl ?_
  exact hp
set_option maxRecDepth 100000 in
set_option maxHeartbeats 4000000 in
theorem l_F_checkOf_15 {fa ba : Nat} (hf : x_at 1 z fa) (hb : x_ar 100 18 z ba) (hq : P fa 0 = some ba) {f t i : Nat} {s0 mask c0 : Int32} (hi : i < 18) (hk : xp G M_F_checkOf 6 [(0, .ref fa), (1, .int (nI f)), (2, .int (nI t)), (3, .int s0), (4, .int mask), (5, .int (k_byte mask (I ba i) c0 8)), (6, .int (nI (i + 1)))] [] (z, I, P) 0 0 post) : ∀ n k : Nat, 8 - k = n → k ≤ 8 → xp G M_F_checkOf 15 [(0, .ref fa), (1, .int (nI f)), (2, .int (nI t)), (3, .int s0), (4, .int mask), (5, .int (k_byte mask (I ba i) c0 k)), (6, .int (nI i)), (7, .int (nI k))] [] (z, I, P) 0 0 post := by
  intro n
  induction n using Nat.strongRecOn with
  | ind n ih =>
  intro k hn hk8
  subst hn
  refine xp_iload d_F_checkOf_15 rfl ?_
  refine xp_bipush (v := 8) d_F_checkOf_17 (by decide) ?_
  refine xp_icmp_ge (tgt := 74) d_F_checkOf_19 (by decide) (fun c19 => ?_) (fun c19 => ?_)
  · skip
    have e8 := (nI_leI (a := 8) (b := k) (by decide) (by omega)).mp c19
    have e8 : k = 8 := by omega
    subst e8
    refine xp_inc1 d_F_checkOf_74 rfl (by decide) ?_
    refine xp_goto (tgt := 6) d_F_checkOf_77 (by decide) ?_
    refine xp_loc (lv' := [(0, .ref fa), (1, .int (nI f)), (2, .int (nI t)), (3, .int s0), (4, .int mask), (5, .int (k_byte mask (I ba i) c0 8)), (6, .int (nI (i + 1)))]) ⟨rfl, rfl, rfl, rfl, rfl, rfl, rfl, trivial⟩ ?_
    exact hk
  · skip
    have e8 : ¬ 8 ≤ k := fun e => c19 ((nI_leI (a := 8) (b := k) (by decide) (by omega)).mpr e)
    refine xp_iload d_F_checkOf_22 rfl ?_
    refine xp_aload_n d_F_checkOf_24 rfl ?_
    refine xq_getR d_F_checkOf_25 fg_F_11 (by assumption) (by assumption) ?_
    refine xp_iload d_F_checkOf_28 rfl ?_
    refine xq_iaload d_F_checkOf_30 (by assumption) rfl (by omega) (by decide) ?_
    refine xp_iload d_F_checkOf_31 rfl ?_
    refine xp_ishr d_F_checkOf_33 ?_
    refine xp_ixor d_F_checkOf_34 ?_
    refine xp_iconst (v := 1) d_F_checkOf_35 (by decide) ?_
    refine xp_iand d_F_checkOf_36 ?_
    refine xp_if_eq (tgt := 44) d_F_checkOf_37 (by decide) (fun c37 => ?_) (fun c37 => ?_)
    · skip
      refine xp_iconst (v := 0) d_F_checkOf_44 (by decide) ?_
      refine xp_istore d_F_checkOf_45 (by decide) ?_
      refine xp_iload d_F_checkOf_47 rfl ?_
      refine xp_if_eq (tgt := 62) d_F_checkOf_49 (by decide) (fun _ => ?_) (fun h => absurd (by decide) h)
      refine xp_iload d_F_checkOf_62 rfl ?_
      refine xp_iconst (v := 1) d_F_checkOf_64 (by decide) ?_
      refine xp_ishr d_F_checkOf_65 ?_
      refine xp_istore d_F_checkOf_66 (by decide) ?_
      refine xp_inc1 d_F_checkOf_68 rfl (by decide) ?_
      refine xp_goto (tgt := 15) d_F_checkOf_71 (by decide) ?_
      refine xp_loc (lv' := [(0, .ref fa), (1, .int (nI f)), (2, .int (nI t)), (3, .int s0), (4, .int mask), (5, .int (k_byte mask (I ba i) c0 (k + 1))), (6, .int (nI i)), (7, .int (nI (k + 1)))]) ?_ ?_
      · refine ⟨rfl, rfl, rfl, rfl, rfl, ?_, rfl, rfl, trivial⟩
        show _ = some (Value.int (k_bit mask (I ba i) (k_byte mask (I ba i) c0 k) k))
        unfold k_bit
        rw [if_pos c37]
        rfl
      · exact ih (8 - (k + 1)) (by omega) (k + 1) rfl (by omega)
    · skip
      refine xp_iconst (v := 1) d_F_checkOf_40 (by decide) ?_
      refine xp_goto (tgt := 45) d_F_checkOf_41 (by decide) ?_
      refine xp_istore d_F_checkOf_45 (by decide) ?_
      refine xp_iload d_F_checkOf_47 rfl ?_
      refine xp_if_eq (tgt := 62) d_F_checkOf_49 (by decide) (fun h => absurd h (by decide)) (fun _ => ?_)
      refine xp_iload d_F_checkOf_52 rfl ?_
      refine xp_iconst (v := 1) d_F_checkOf_54 (by decide) ?_
      refine xp_ishr d_F_checkOf_55 ?_
      refine xp_iload d_F_checkOf_56 rfl ?_
      refine xp_ixor d_F_checkOf_58 ?_
      refine xp_goto (tgt := 66) d_F_checkOf_59 (by decide) ?_
      refine xp_istore d_F_checkOf_66 (by decide) ?_
      refine xp_inc1 d_F_checkOf_68 rfl (by decide) ?_
      refine xp_goto (tgt := 15) d_F_checkOf_71 (by decide) ?_
      refine xp_loc (lv' := [(0, .ref fa), (1, .int (nI f)), (2, .int (nI t)), (3, .int s0), (4, .int mask), (5, .int (k_byte mask (I ba i) c0 (k + 1))), (6, .int (nI i)), (7, .int (nI (k + 1)))]) ?_ ?_
      · refine ⟨rfl, rfl, rfl, rfl, rfl, ?_, rfl, rfl, trivial⟩
        show _ = some (Value.int (k_bit mask (I ba i) (k_byte mask (I ba i) c0 k) k))
        unfold k_bit
        rw [if_neg c37]
        rfl
      · exact ih (8 - (k + 1)) (by omega) (k + 1) rfl (by omega)
def k_hc (f : Nat → Int32) : Int32 := 255 - k_crc 129 f 2 255 5
def k_dc (f : Nat → Int32) : Int32 := 65535 - k_crc 33800 f 8 65535 8
def k_h7 (I : Nat → Nat → Int32) (ba : Nat) (ty to fr n : Int32) : Nat → Nat → Int32 := x_up (x_up (x_up (x_up (x_up (x_up (x_up I ba 0 85) ba 1 255) ba 2 ty) ba 3 to) ba 4 fr) ba 5 0) ba 6 n
def k_wh (I : Nat → Nat → Int32) (fa ba : Nat) (ty to fr n : Int32) : Nat → Nat → Int32 := x_up (x_up (k_h7 I ba ty to fr n) ba 7 (k_hc (k_h7 I ba ty to fr n ba))) fa 1 8
def k_d8 (I : Nat → Nat → Int32) (ba : Nat) (sv id ob le nu : Int32) : Nat → Nat → Int32 := x_up (x_up (x_up (x_up (x_up (x_up (x_up (x_up I ba 8 sv) ba 9 id) ba 10 ob) ba 11 le) ba 12 (nu >>> (24 &&& 31) &&& 255)) ba 13 (nu >>> (16 &&& 31) &&& 255)) ba 14 (nu >>> (8 &&& 31) &&& 255)) ba 15 (nu &&& 255)
def k_wd (I : Nat → Nat → Int32) (fa ba : Nat) (sv id ob le nu : Int32) : Nat → Nat → Int32 := x_up (x_up (x_up (k_d8 I ba sv id ob le nu) ba 16 (k_dc (k_d8 I ba sv id ob le nu ba) &&& 255)) ba 17 (k_dc (k_d8 I ba sv id ob le nu ba) >>> (8 &&& 31))) fa 1 18
def k_spoil (I : Nat → Nat → Int32) (fa ba s : Nat) : Nat → Nat → Int32 := if I fa 3 = 0 then I else if I fa 1 ≤ I fa 2 then I else x_up I ba s (I ba s ^^^ I fa 3)
def k_right (f : Nat → Int32) (sz : Int32) : Int32 := if f 0 = 85 then (if f 1 = 255 then (if f 7 = k_hc f then (if f 6 = 0 then 1 else if f 6 = 8 then (if sz = 18 then (if f 16 + f 17 <<< (8 &&& 31) = k_dc f then 1 else 0) else 0) else 0) else 0) else 0) else 0
def k_bos (f : Nat → Int32) (sz i : Int32) : Int32 := if i = -1 then sz else if i < 0 then -1 else if sz ≤ i then -1 else f i.toNatClampNeg
set_option maxRecDepth 100000 in
set_option maxHeartbeats 4000000 in
theorem l_F_checkOf_6 {fa ba : Nat} (hf : x_at 1 z fa) (hb : x_ar 100 18 z ba) (hq : P fa 0 = some ba) {f len : Nat} {s0 mask : Int32} (hfl : f + len ≤ 18) (hp : post (some (.int (s0 - k_crc mask (I ba) f s0 len))) (z, I, P)) : ∀ n m : Nat, len - m = n → m ≤ len → xp G M_F_checkOf 6 [(0, .ref fa), (1, .int (nI f)), (2, .int (nI (f + len))), (3, .int s0), (4, .int mask), (5, .int (k_crc mask (I ba) f s0 m)), (6, .int (nI (f + m)))] [] (z, I, P) 0 0 post := by
  intro n
  induction n using Nat.strongRecOn with
  | ind n ih =>
  intro m hn hm
  subst hn
  refine xp_iload d_F_checkOf_6 rfl ?_
  refine xp_iload_n d_F_checkOf_8 rfl ?_
  refine xp_icmp_ge (tgt := 80) d_F_checkOf_9 (by decide) (fun c9 => ?_) (fun c9 => ?_)
  · skip
    have e8 := (nI_leI (a := f + len) (b := f + m) (by omega) (by omega)).mp c9
    have e8 : m = len := by omega
    subst e8
    refine xp_iload_n d_F_checkOf_80 rfl ?_
    refine xp_iload d_F_checkOf_81 rfl ?_
    refine xp_isub d_F_checkOf_83 ?_
    refine xp_ireturn d_F_checkOf_84 rfl rfl ?_
    exact hp
  · skip
    have e8 : ¬ f + len ≤ f + m := fun e => c9 ((nI_leI (a := f + len) (b := f + m) (by omega) (by omega)).mpr e)
    refine xp_iconst (v := 0) d_F_checkOf_12 (by decide) ?_
    refine xp_istore d_F_checkOf_13 (by decide) ?_
    refine xp_loc (lv' := [(0, .ref fa), (1, .int (nI f)), (2, .int (nI (f + len))), (3, .int s0), (4, .int mask), (5, .int (k_crc mask (I ba) f s0 m)), (6, .int (nI (f + m))), (7, .int (nI 0))]) ⟨rfl, rfl, rfl, rfl, rfl, rfl, rfl, rfl, trivial⟩ ?_
    refine l_F_checkOf_15 hf hb hq (c0 := k_crc mask (I ba) f s0 m) (by omega) ?_ 8 0 rfl (by omega)
    exact ih (len - (m + 1)) (by omega) (m + 1) rfl (by omega)
set_option maxRecDepth 100000 in
set_option maxHeartbeats 4000000 in
theorem c_F_checkOf {fa ba : Nat} (hf : x_at 1 z fa) (hb : x_ar 100 18 z ba) (hq : P fa 0 = some ba) {s0 mask : Int32} (f len : Nat) (hfl : f + len ≤ 18) (hp : post (some (.int (s0 - k_crc mask (I ba) f s0 len))) (z, I, P)) : xp G M_F_checkOf 0 [(0, .ref fa), (1, .int (nI f)), (2, .int (nI (f + len))), (3, .int s0), (4, .int mask)] [] (z, I, P) 0 0 post := by
  refine xp_iload_n d_F_checkOf_0 rfl ?_
  refine xp_istore d_F_checkOf_1 (by decide) ?_
  refine xp_iload_n d_F_checkOf_3 rfl ?_
  refine xp_istore d_F_checkOf_4 (by decide) ?_
  refine xp_loc (lv' := [(0, .ref fa), (1, .int (nI f)), (2, .int (nI (f + len))), (3, .int s0), (4, .int mask), (5, .int (k_crc mask (I ba) f s0 0)), (6, .int (nI (f + 0)))]) ⟨rfl, rfl, rfl, rfl, rfl, rfl, rfl, trivial⟩ ?_
  exact l_F_checkOf_6 hf hb hq hfl hp len 0 rfl (by omega)
set_option maxRecDepth 100000 in
set_option maxHeartbeats 4000000 in
theorem c_F_headerCheck {fa ba : Nat} (hf : x_at 1 z fa) (hb : x_ar 100 18 z ba) (hq : P fa 0 = some ba) (hp : post (some (.int (k_hc (I ba)))) (z, I, P)) : xp G M_F_headerCheck 0 [(0, .ref fa)] [] (z, I, P) 0 0 post := by
  refine xp_aload_n d_F_headerCheck_0 rfl ?_
  refine xp_iconst (v := 2) d_F_headerCheck_1 (by decide) ?_
  refine xp_bipush (v := 7) d_F_headerCheck_2 (by decide) ?_
  refine xp_sipush (v := 255) d_F_headerCheck_4 (by decide) ?_
  refine xp_sipush (v := 129) d_F_headerCheck_7 (by decide) ?_
  refine xq_V4r d_F_headerCheck_10 g_F_headerCheck_32 (by assumption) rfl rfl ?_
  refine c_F_checkOf hf hb hq 2 5 (by decide) ?_
  refine ⟨_, rfl, ?_⟩
  refine xp_ireturn d_F_headerCheck_13 rfl rfl ?_
  exact hp
set_option maxRecDepth 100000 in
set_option maxHeartbeats 4000000 in
theorem c_F_dataCheck {fa ba : Nat} (hf : x_at 1 z fa) (hb : x_ar 100 18 z ba) (hq : P fa 0 = some ba) (hp : post (some (.int (k_dc (I ba)))) (z, I, P)) : xp G M_F_dataCheck 0 [(0, .ref fa)] [] (z, I, P) 0 0 post := by
  refine xp_aload_n d_F_dataCheck_0 rfl ?_
  refine xp_bipush (v := 8) d_F_dataCheck_1 (by decide) ?_
  refine xp_bipush (v := 16) d_F_dataCheck_3 (by decide) ?_
  refine xp_ldc d_F_dataCheck_5 ct_F_36 ?_
  refine xp_ldc d_F_dataCheck_7 ct_F_37 ?_
  refine xq_V4r d_F_dataCheck_9 g_F_dataCheck_32 (by assumption) rfl rfl ?_
  refine c_F_checkOf hf hb hq 8 8 (by decide) ?_
  refine ⟨_, rfl, ?_⟩
  refine xp_ireturn d_F_dataCheck_12 rfl rfl ?_
  exact hp
set_option maxRecDepth 100000 in
set_option maxHeartbeats 4000000 in
theorem c_F_writeHeader {fa ba : Nat} (hf : x_at 1 z fa) (hb : x_ar 100 18 z ba) (hq : P fa 0 = some ba) {ty to fr n : Int32} (hp : post none (z, k_wh I fa ba ty to fr n, P)) : xp G M_F_writeHeader 0 [(0, .ref fa), (1, .int ty), (2, .int to), (3, .int fr), (4, .int n)] [] (z, I, P) 0 0 post := by
  refine xp_aload_n d_F_writeHeader_0 rfl ?_
  refine xq_getR d_F_writeHeader_1 fg_F_11 (by assumption) (by assumption) ?_
  refine xp_iconst (v := 0) d_F_writeHeader_4 (by decide) ?_
  refine xp_bipush (v := 85) d_F_writeHeader_5 (by decide) ?_
  refine xq_iastore (j := 0) d_F_writeHeader_7 (by assumption) rfl (by omega) (by decide) ?_
  refine xp_aload_n d_F_writeHeader_8 rfl ?_
  refine xq_getR d_F_writeHeader_9 fg_F_11 (by assumption) (by assumption) ?_
  refine xp_iconst (v := 1) d_F_writeHeader_12 (by decide) ?_
  refine xp_sipush (v := 255) d_F_writeHeader_13 (by decide) ?_
  refine xq_iastore (j := 1) d_F_writeHeader_16 (by assumption) rfl (by omega) (by decide) ?_
  refine xp_aload_n d_F_writeHeader_17 rfl ?_
  refine xq_getR d_F_writeHeader_18 fg_F_11 (by assumption) (by assumption) ?_
  refine xp_iconst (v := 2) d_F_writeHeader_21 (by decide) ?_
  refine xp_iload_n d_F_writeHeader_22 rfl ?_
  refine xq_iastore (j := 2) d_F_writeHeader_23 (by assumption) rfl (by omega) (by decide) ?_
  refine xp_aload_n d_F_writeHeader_24 rfl ?_
  refine xq_getR d_F_writeHeader_25 fg_F_11 (by assumption) (by assumption) ?_
  refine xp_iconst (v := 3) d_F_writeHeader_28 (by decide) ?_
  refine xp_iload_n d_F_writeHeader_29 rfl ?_
  refine xq_iastore (j := 3) d_F_writeHeader_30 (by assumption) rfl (by omega) (by decide) ?_
  refine xp_aload_n d_F_writeHeader_31 rfl ?_
  refine xq_getR d_F_writeHeader_32 fg_F_11 (by assumption) (by assumption) ?_
  refine xp_iconst (v := 4) d_F_writeHeader_35 (by decide) ?_
  refine xp_iload_n d_F_writeHeader_36 rfl ?_
  refine xq_iastore (j := 4) d_F_writeHeader_37 (by assumption) rfl (by omega) (by decide) ?_
  refine xp_aload_n d_F_writeHeader_38 rfl ?_
  refine xq_getR d_F_writeHeader_39 fg_F_11 (by assumption) (by assumption) ?_
  refine xp_iconst (v := 5) d_F_writeHeader_42 (by decide) ?_
  refine xp_iconst (v := 0) d_F_writeHeader_43 (by decide) ?_
  refine xq_iastore (j := 5) d_F_writeHeader_44 (by assumption) rfl (by omega) (by decide) ?_
  refine xp_aload_n d_F_writeHeader_45 rfl ?_
  refine xq_getR d_F_writeHeader_46 fg_F_11 (by assumption) (by assumption) ?_
  refine xp_bipush (v := 6) d_F_writeHeader_49 (by decide) ?_
  refine xp_iload d_F_writeHeader_51 rfl ?_
  refine xq_iastore (j := 6) d_F_writeHeader_53 (by assumption) rfl (by omega) (by decide) ?_
  refine xp_aload_n d_F_writeHeader_54 rfl ?_
  refine xq_getR d_F_writeHeader_55 fg_F_11 (by assumption) (by assumption) ?_
  refine xp_bipush (v := 7) d_F_writeHeader_58 (by decide) ?_
  refine xp_aload_n d_F_writeHeader_60 rfl ?_
  refine xq_V0r d_F_writeHeader_61 g_F_writeHeader_25 (by assumption) rfl rfl ?_
  refine c_F_headerCheck hf hb hq ?_
  refine ⟨_, rfl, ?_⟩
  refine xq_iastore (j := 7) d_F_writeHeader_64 (by assumption) rfl (by omega) (by decide) ?_
  refine xp_aload_n d_F_writeHeader_65 rfl ?_
  refine xp_bipush (v := 8) d_F_writeHeader_66 (by decide) ?_
  refine xq_putI d_F_writeHeader_68 f_F_15 (by assumption) ?_
  refine xp_return_ d_F_writeHeader_71 rfl ?_
  exact hp
set_option maxRecDepth 100000 in
set_option maxHeartbeats 4000000 in
theorem c_F_writeData {fa ba : Nat} (hf : x_at 1 z fa) (hb : x_ar 100 18 z ba) (hq : P fa 0 = some ba) {sv id ob le nu : Int32} (hp : post none (z, k_wd I fa ba sv id ob le nu, P)) : xp G M_F_writeData 0 [(0, .ref fa), (1, .int sv), (2, .int id), (3, .int ob), (4, .int le), (5, .int nu)] [] (z, I, P) 0 0 post := by
  refine xp_aload_n d_F_writeData_0 rfl ?_
  refine xq_getR d_F_writeData_1 fg_F_11 (by assumption) (by assumption) ?_
  refine xp_bipush (v := 8) d_F_writeData_4 (by decide) ?_
  refine xp_iload_n d_F_writeData_6 rfl ?_
  refine xq_iastore (j := 8) d_F_writeData_7 (by assumption) rfl (by omega) (by decide) ?_
  refine xp_aload_n d_F_writeData_8 rfl ?_
  refine xq_getR d_F_writeData_9 fg_F_11 (by assumption) (by assumption) ?_
  refine xp_bipush (v := 9) d_F_writeData_12 (by decide) ?_
  refine xp_iload_n d_F_writeData_14 rfl ?_
  refine xq_iastore (j := 9) d_F_writeData_15 (by assumption) rfl (by omega) (by decide) ?_
  refine xp_aload_n d_F_writeData_16 rfl ?_
  refine xq_getR d_F_writeData_17 fg_F_11 (by assumption) (by assumption) ?_
  refine xp_bipush (v := 10) d_F_writeData_20 (by decide) ?_
  refine xp_iload_n d_F_writeData_22 rfl ?_
  refine xq_iastore (j := 10) d_F_writeData_23 (by assumption) rfl (by omega) (by decide) ?_
  refine xp_aload_n d_F_writeData_24 rfl ?_
  refine xq_getR d_F_writeData_25 fg_F_11 (by assumption) (by assumption) ?_
  refine xp_bipush (v := 11) d_F_writeData_28 (by decide) ?_
  refine xp_iload d_F_writeData_30 rfl ?_
  refine xq_iastore (j := 11) d_F_writeData_32 (by assumption) rfl (by omega) (by decide) ?_
  refine xp_aload_n d_F_writeData_33 rfl ?_
  refine xq_getR d_F_writeData_34 fg_F_11 (by assumption) (by assumption) ?_
  refine xp_bipush (v := 12) d_F_writeData_37 (by decide) ?_
  refine xp_iload d_F_writeData_39 rfl ?_
  refine xp_bipush (v := 24) d_F_writeData_41 (by decide) ?_
  refine xp_ishr d_F_writeData_43 ?_
  refine xp_sipush (v := 255) d_F_writeData_44 (by decide) ?_
  refine xp_iand d_F_writeData_47 ?_
  refine xq_iastore (j := 12) d_F_writeData_48 (by assumption) rfl (by omega) (by decide) ?_
  refine xp_aload_n d_F_writeData_49 rfl ?_
  refine xq_getR d_F_writeData_50 fg_F_11 (by assumption) (by assumption) ?_
  refine xp_bipush (v := 13) d_F_writeData_53 (by decide) ?_
  refine xp_iload d_F_writeData_55 rfl ?_
  refine xp_bipush (v := 16) d_F_writeData_57 (by decide) ?_
  refine xp_ishr d_F_writeData_59 ?_
  refine xp_sipush (v := 255) d_F_writeData_60 (by decide) ?_
  refine xp_iand d_F_writeData_63 ?_
  refine xq_iastore (j := 13) d_F_writeData_64 (by assumption) rfl (by omega) (by decide) ?_
  refine xp_aload_n d_F_writeData_65 rfl ?_
  refine xq_getR d_F_writeData_66 fg_F_11 (by assumption) (by assumption) ?_
  refine xp_bipush (v := 14) d_F_writeData_69 (by decide) ?_
  refine xp_iload d_F_writeData_71 rfl ?_
  refine xp_bipush (v := 8) d_F_writeData_73 (by decide) ?_
  refine xp_ishr d_F_writeData_75 ?_
  refine xp_sipush (v := 255) d_F_writeData_76 (by decide) ?_
  refine xp_iand d_F_writeData_79 ?_
  refine xq_iastore (j := 14) d_F_writeData_80 (by assumption) rfl (by omega) (by decide) ?_
  refine xp_aload_n d_F_writeData_81 rfl ?_
  refine xq_getR d_F_writeData_82 fg_F_11 (by assumption) (by assumption) ?_
  refine xp_bipush (v := 15) d_F_writeData_85 (by decide) ?_
  refine xp_iload d_F_writeData_87 rfl ?_
  refine xp_sipush (v := 255) d_F_writeData_89 (by decide) ?_
  refine xp_iand d_F_writeData_92 ?_
  refine xq_iastore (j := 15) d_F_writeData_93 (by assumption) rfl (by omega) (by decide) ?_
  refine xp_aload_n d_F_writeData_94 rfl ?_
  refine xq_V0r d_F_writeData_95 g_F_writeData_29 (by assumption) rfl rfl ?_
  refine c_F_dataCheck hf hb hq ?_
  refine ⟨_, rfl, ?_⟩
  refine xp_istore d_F_writeData_98 (by decide) ?_
  refine xp_aload_n d_F_writeData_100 rfl ?_
  refine xq_getR d_F_writeData_101 fg_F_11 (by assumption) (by assumption) ?_
  refine xp_bipush (v := 16) d_F_writeData_104 (by decide) ?_
  refine xp_iload d_F_writeData_106 rfl ?_
  refine xp_sipush (v := 255) d_F_writeData_108 (by decide) ?_
  refine xp_iand d_F_writeData_111 ?_
  refine xq_iastore (j := 16) d_F_writeData_112 (by assumption) rfl (by omega) (by decide) ?_
  refine xp_aload_n d_F_writeData_113 rfl ?_
  refine xq_getR d_F_writeData_114 fg_F_11 (by assumption) (by assumption) ?_
  refine xp_bipush (v := 17) d_F_writeData_117 (by decide) ?_
  refine xp_iload d_F_writeData_119 rfl ?_
  refine xp_bipush (v := 8) d_F_writeData_121 (by decide) ?_
  refine xp_ishr d_F_writeData_123 ?_
  refine xq_iastore (j := 17) d_F_writeData_124 (by assumption) rfl (by omega) (by decide) ?_
  refine xp_aload_n d_F_writeData_125 rfl ?_
  refine xp_bipush (v := 18) d_F_writeData_126 (by decide) ?_
  refine xq_putI d_F_writeData_128 f_F_15 (by assumption) ?_
  refine xp_return_ d_F_writeData_131 rfl ?_
  exact hp
set_option maxRecDepth 100000 in
set_option maxHeartbeats 4000000 in
theorem c_F_spoilAsPlanned {fa ba : Nat} (hf : x_at 1 z fa) (hb : x_ar 100 18 z ba) (hq : P fa 0 = some ba) {s : Nat} (hs : s < 18) (hsp : I fa 2 = nI s) (hp : post none (z, k_spoil I fa ba s, P)) : xp G M_F_spoilAsPlanned 0 [(0, .ref fa)] [] (z, I, P) 0 0 post := by
  unfold k_spoil at hp
  refine xp_aload_n d_F_spoilAsPlanned_0 rfl ?_
  refine xq_getI d_F_spoilAsPlanned_1 fg_F_22 (by assumption) ?_
  refine xp_if_eq (tgt := 34) d_F_spoilAsPlanned_4 (by decide) (fun c4 => ?_) (fun c4 => ?_)
  · skip
    refine xp_return_ d_F_spoilAsPlanned_34 rfl ?_
    rw [if_pos c4] at hp
    exact hp
  · skip
    refine xp_aload_n d_F_spoilAsPlanned_7 rfl ?_
    refine xq_getI d_F_spoilAsPlanned_8 fg_F_19 (by assumption) ?_
    refine xp_aload_n d_F_spoilAsPlanned_11 rfl ?_
    refine xq_getI d_F_spoilAsPlanned_12 fg_F_15 (by assumption) ?_
    refine xp_icmp_ge (tgt := 34) d_F_spoilAsPlanned_15 (by decide) (fun c15 => ?_) (fun c15 => ?_)
    · skip
      refine xp_return_ d_F_spoilAsPlanned_34 rfl ?_
      rw [if_neg c4, if_pos c15] at hp
      exact hp
    · skip
      refine xp_aload_n d_F_spoilAsPlanned_18 rfl ?_
      refine xq_getR d_F_spoilAsPlanned_19 fg_F_11 (by assumption) (by assumption) ?_
      refine xp_aload_n d_F_spoilAsPlanned_22 rfl ?_
      refine xq_getI d_F_spoilAsPlanned_23 fg_F_19 (by assumption) ?_
      refine xp_dup2 d_F_spoilAsPlanned_26 rfl rfl ?_
      refine xq_iaload d_F_spoilAsPlanned_27 (by assumption) hsp hs (by decide) ?_
      refine xp_aload_n d_F_spoilAsPlanned_28 rfl ?_
      refine xq_getI d_F_spoilAsPlanned_29 fg_F_22 (by assumption) ?_
      refine xp_ixor d_F_spoilAsPlanned_32 ?_
      refine xq_iastore d_F_spoilAsPlanned_33 (by assumption) hsp hs (by decide) ?_
      refine xp_return_ d_F_spoilAsPlanned_34 rfl ?_
      rw [if_neg c4, if_neg c15] at hp
      exact hp
set_option maxRecDepth 100000 in
set_option maxHeartbeats 4000000 in
theorem c_F_isRight {fa ba : Nat} (hf : x_at 1 z fa) (hb : x_ar 100 18 z ba) (hq : P fa 0 = some ba) (hp : post (some (.int (k_right (I ba) (I fa 1)))) (z, I, P)) : xp G M_F_isRight 0 [(0, .ref fa)] [] (z, I, P) 0 0 post := by
  unfold k_right at hp
  refine xp_aload_n d_F_isRight_0 rfl ?_
  refine xq_getR d_F_isRight_1 fg_F_11 (by assumption) (by assumption) ?_
  refine xp_iconst (v := 0) d_F_isRight_4 (by decide) ?_
  refine xq_iaload (j := 0) d_F_isRight_5 (by assumption) rfl (by omega) (by decide) ?_
  refine xp_bipush (v := 85) d_F_isRight_6 (by decide) ?_
  refine xp_icmp_ne (tgt := 37) d_F_isRight_8 (by decide) (fun c8 => ?_) (fun c8 => ?_)
  · skip
    refine xp_iconst (v := 0) d_F_isRight_37 (by decide) ?_
    refine xp_ireturn d_F_isRight_38 rfl (x_bit (by first | exact Or.inl rfl | exact Or.inr rfl | assumption)).1 ?_
    rw [if_neg c8] at hp
    exact hp
  · skip
    refine xp_aload_n d_F_isRight_11 rfl ?_
    refine xq_getR d_F_isRight_12 fg_F_11 (by assumption) (by assumption) ?_
    refine xp_iconst (v := 1) d_F_isRight_15 (by decide) ?_
    refine xq_iaload (j := 1) d_F_isRight_16 (by assumption) rfl (by omega) (by decide) ?_
    refine xp_sipush (v := 255) d_F_isRight_17 (by decide) ?_
    refine xp_icmp_ne (tgt := 37) d_F_isRight_20 (by decide) (fun c20 => ?_) (fun c20 => ?_)
    · skip
      refine xp_iconst (v := 0) d_F_isRight_37 (by decide) ?_
      refine xp_ireturn d_F_isRight_38 rfl (x_bit (by first | exact Or.inl rfl | exact Or.inr rfl | assumption)).1 ?_
      rw [if_pos c8, if_neg c20] at hp
      exact hp
    · skip
      refine xp_aload_n d_F_isRight_23 rfl ?_
      refine xq_getR d_F_isRight_24 fg_F_11 (by assumption) (by assumption) ?_
      refine xp_bipush (v := 7) d_F_isRight_27 (by decide) ?_
      refine xq_iaload (j := 7) d_F_isRight_29 (by assumption) rfl (by omega) (by decide) ?_
      refine xp_aload_n d_F_isRight_30 rfl ?_
      refine xq_V0r d_F_isRight_31 g_F_isRight_25 (by assumption) rfl rfl ?_
      refine c_F_headerCheck hf hb hq ?_
      refine ⟨_, rfl, ?_⟩
      refine xp_icmp_eq (tgt := 39) d_F_isRight_34 (by decide) (fun c34 => ?_) (fun c34 => ?_)
      · skip
        refine xp_aload_n d_F_isRight_39 rfl ?_
        refine xq_getR d_F_isRight_40 fg_F_11 (by assumption) (by assumption) ?_
        refine xp_bipush (v := 6) d_F_isRight_43 (by decide) ?_
        refine xq_iaload (j := 6) d_F_isRight_45 (by assumption) rfl (by omega) (by decide) ?_
        refine xp_if_ne (tgt := 51) d_F_isRight_46 (by decide) (fun c46 => ?_) (fun c46 => ?_)
        · skip
          refine xp_aload_n d_F_isRight_51 rfl ?_
          refine xq_getR d_F_isRight_52 fg_F_11 (by assumption) (by assumption) ?_
          refine xp_bipush (v := 6) d_F_isRight_55 (by decide) ?_
          refine xq_iaload (j := 6) d_F_isRight_57 (by assumption) rfl (by omega) (by decide) ?_
          refine xp_bipush (v := 8) d_F_isRight_58 (by decide) ?_
          refine xp_icmp_ne (tgt := 101) d_F_isRight_60 (by decide) (fun c60 => ?_) (fun c60 => ?_)
          · skip
            refine xp_iconst (v := 0) d_F_isRight_101 (by decide) ?_
            refine xp_ireturn d_F_isRight_102 rfl (x_bit (by first | exact Or.inl rfl | exact Or.inr rfl | assumption)).1 ?_
            rw [if_pos c8, if_pos c20, if_pos c34, if_neg c46, if_neg c60] at hp
            exact hp
          · skip
            refine xp_aload_n d_F_isRight_63 rfl ?_
            refine xq_getI d_F_isRight_64 fg_F_15 (by assumption) ?_
            refine xp_bipush (v := 18) d_F_isRight_67 (by decide) ?_
            refine xp_icmp_ne (tgt := 101) d_F_isRight_69 (by decide) (fun c69 => ?_) (fun c69 => ?_)
            · skip
              refine xp_iconst (v := 0) d_F_isRight_101 (by decide) ?_
              refine xp_ireturn d_F_isRight_102 rfl (x_bit (by first | exact Or.inl rfl | exact Or.inr rfl | assumption)).1 ?_
              rw [if_pos c8, if_pos c20, if_pos c34, if_neg c46, if_pos c60, if_neg c69] at hp
              exact hp
            · skip
              refine xp_aload_n d_F_isRight_72 rfl ?_
              refine xq_getR d_F_isRight_73 fg_F_11 (by assumption) (by assumption) ?_
              refine xp_bipush (v := 16) d_F_isRight_76 (by decide) ?_
              refine xq_iaload (j := 16) d_F_isRight_78 (by assumption) rfl (by omega) (by decide) ?_
              refine xp_aload_n d_F_isRight_79 rfl ?_
              refine xq_getR d_F_isRight_80 fg_F_11 (by assumption) (by assumption) ?_
              refine xp_bipush (v := 17) d_F_isRight_83 (by decide) ?_
              refine xq_iaload (j := 17) d_F_isRight_85 (by assumption) rfl (by omega) (by decide) ?_
              refine xp_bipush (v := 8) d_F_isRight_86 (by decide) ?_
              refine xp_ishl d_F_isRight_88 ?_
              refine xp_iadd d_F_isRight_89 ?_
              refine xp_aload_n d_F_isRight_90 rfl ?_
              refine xq_V0r d_F_isRight_91 g_F_isRight_29 (by assumption) rfl rfl ?_
              refine c_F_dataCheck hf hb hq ?_
              refine ⟨_, rfl, ?_⟩
              refine xp_icmp_ne (tgt := 101) d_F_isRight_94 (by decide) (fun c94 => ?_) (fun c94 => ?_)
              · skip
                refine xp_iconst (v := 0) d_F_isRight_101 (by decide) ?_
                refine xp_ireturn d_F_isRight_102 rfl (x_bit (by first | exact Or.inl rfl | exact Or.inr rfl | assumption)).1 ?_
                rw [if_pos c8, if_pos c20, if_pos c34, if_neg c46, if_pos c60, if_pos c69, if_neg c94] at hp
                exact hp
              · skip
                refine xp_iconst (v := 1) d_F_isRight_97 (by decide) ?_
                refine xp_goto (tgt := 102) d_F_isRight_98 (by decide) ?_
                refine xp_ireturn d_F_isRight_102 rfl (x_bit (by first | exact Or.inl rfl | exact Or.inr rfl | assumption)).1 ?_
                rw [if_pos c8, if_pos c20, if_pos c34, if_neg c46, if_pos c60, if_pos c69, if_pos c94] at hp
                exact hp
        · skip
          refine xp_iconst (v := 1) d_F_isRight_49 (by decide) ?_
          refine xp_ireturn d_F_isRight_50 rfl (x_bit (by first | exact Or.inl rfl | exact Or.inr rfl | assumption)).1 ?_
          rw [if_pos c8, if_pos c20, if_pos c34, if_pos c46] at hp
          exact hp
      · skip
        refine xp_iconst (v := 0) d_F_isRight_37 (by decide) ?_
        refine xp_ireturn d_F_isRight_38 rfl (x_bit (by first | exact Or.inl rfl | exact Or.inr rfl | assumption)).1 ?_
        rw [if_pos c8, if_pos c20, if_neg c34] at hp
        exact hp
set_option maxRecDepth 100000 in
set_option maxHeartbeats 4000000 in
theorem c_F_destination {fa ba : Nat} (hf : x_at 1 z fa) (hb : x_ar 100 18 z ba) (hq : P fa 0 = some ba) (hp : post (some (.int (I ba 3))) (z, I, P)) : xp G M_F_destination 0 [(0, .ref fa)] [] (z, I, P) 0 0 post := by
  refine xp_aload_n d_F_destination_0 rfl ?_
  refine xq_getR d_F_destination_1 fg_F_11 (by assumption) (by assumption) ?_
  refine xp_iconst (v := 3) d_F_destination_4 (by decide) ?_
  refine xq_iaload (j := 3) d_F_destination_5 (by assumption) rfl (by omega) (by decide) ?_
  refine xp_ireturn d_F_destination_6 rfl rfl ?_
  exact hp
set_option maxRecDepth 100000 in
set_option maxHeartbeats 4000000 in
theorem c_F_byteOrSize {fa ba : Nat} (hf : x_at 1 z fa) (hb : x_ar 100 18 z ba) (hq : P fa 0 = some ba) {i : Int32} {s : Nat} (hs : s ≤ 18) (hsz : I fa 1 = nI s) (hp : post (some (.int (k_bos (I ba) (I fa 1) i))) (z, I, P)) : xp G M_F_byteOrSize 0 [(0, .ref fa), (1, .int i)] [] (z, I, P) 0 0 post := by
  unfold k_bos at hp
  refine xp_iload_n d_F_byteOrSize_0 rfl ?_
  refine xp_iconst (v := -1) d_F_byteOrSize_1 (by decide) ?_
  refine xp_icmp_ne (tgt := 10) d_F_byteOrSize_2 (by decide) (fun c2 => ?_) (fun c2 => ?_)
  · skip
    refine xp_iload_n d_F_byteOrSize_10 rfl ?_
    refine xp_if_lt (tgt := 31) d_F_byteOrSize_11 (by decide) (fun c11 => ?_) (fun c11 => ?_)
    · skip
      refine xp_iconst (v := -1) d_F_byteOrSize_31 (by decide) ?_
      refine xp_ireturn d_F_byteOrSize_32 rfl rfl ?_
      rw [if_neg c2, if_pos c11] at hp
      first | exact hp | (rw [hj, nI_clamp (by omega)] at hp; exact hp)
    · skip
      refine xp_iload_n d_F_byteOrSize_14 rfl ?_
      refine xp_aload_n d_F_byteOrSize_15 rfl ?_
      refine xq_getI d_F_byteOrSize_16 fg_F_15 (by assumption) ?_
      refine xp_icmp_ge (tgt := 31) d_F_byteOrSize_19 (by decide) (fun c19 => ?_) (fun c19 => ?_)
      · skip
        refine xp_iconst (v := -1) d_F_byteOrSize_31 (by decide) ?_
        refine xp_ireturn d_F_byteOrSize_32 rfl rfl ?_
        rw [if_neg c2, if_neg c11, if_pos c19] at hp
        first | exact hp | (rw [hj, nI_clamp (by omega)] at hp; exact hp)
      · skip
        obtain ⟨j, hj1, hj⟩ := nI_of c11
        have hj2 : j < s := Nat.lt_of_not_le (fun e => c19 (by rw [hsz, hj]; exact nI_le e (by omega)))
        refine xp_aload_n d_F_byteOrSize_22 rfl ?_
        refine xq_getR d_F_byteOrSize_23 fg_F_11 (by assumption) (by assumption) ?_
        refine xp_iload_n d_F_byteOrSize_26 rfl ?_
        refine xq_iaload d_F_byteOrSize_27 (by assumption) hj (by omega) (by decide) ?_
        refine xp_goto (tgt := 32) d_F_byteOrSize_28 (by decide) ?_
        refine xp_ireturn d_F_byteOrSize_32 rfl rfl ?_
        rw [if_neg c2, if_neg c11, if_neg c19] at hp
        first | exact hp | (rw [hj, nI_clamp (by omega)] at hp; exact hp)
  · skip
    refine xp_aload_n d_F_byteOrSize_5 rfl ?_
    refine xq_getI d_F_byteOrSize_6 fg_F_15 (by assumption) ?_
    refine xp_ireturn d_F_byteOrSize_9 rfl rfl ?_
    rw [if_pos c2] at hp
    first | exact hp | (rw [hj, nI_clamp (by omega)] at hp; exact hp)
end part80
