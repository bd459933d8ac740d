/-! constructors -/
theorem x_up_row {I : xI} {a b k : Nat} {v : Int32} (h : b ≠ a) : x_up I a k v b = I b := by
  unfold x_up
  rw [if_neg h]
theorem x_upP_row {P : xP} {a b k : Nat} {v : Option Nat} (h : b ≠ a) : x_upP P a k v b = P b := by
  unfold x_upP
  rw [if_neg h]
theorem x_z_id {I : xI} {a : Nat} (h : I a = fun _ => 0) : x_z I a = I := by
  funext b
  unfold x_z
  by_cases hb : b = a
  · rw [if_pos hb, hb, h]
  · rw [if_neg hb]
theorem x_n_id {P : xP} {a : Nat} (h : P a = fun _ => none) : x_n P a = P := by
  funext b
  unfold x_n
  by_cases hb : b = a
  · rw [if_pos hb, hb, h]
  · rw [if_neg hb]
def x_Z (z : Nat) (I : xI) (P : xP) : Prop := ∀ a, z ≤ a → I a = (fun _ => 0) ∧ P a = (fun _ => none)
theorem x_Z_mono {z z' : Nat} {I : xI} {P : xP} (h : x_Z z I P) (hz : z ≤ z') : x_Z z' I P := fun a ha => h a (by omega)
theorem xTY_n {n r : Nat} (hn : n < 6) (hr : r < 10) : xTY (8 + 10 * n + r) = xTYn.getD r (0, 0) := by
  unfold xTY
  rw [if_neg (by omega), if_pos (by omega), show (8 + 10 * n + r - 8) % 10 = r by omega]
section xz
variable {G : xG} {M : xM} {pc : Nat} {lv : List (Nat × Value)} {st : List Value} {z : Nat} {I : xI} {P : xP} {bc bs idx : Nat} {post : Option Value → xH → Prop}
theorem xz_new {ci : Nat} (hd : decode M.2.1 pc = .ok (.new idx, 3)) (hn : x_nw M.1.cls idx ci) (ht : (xTY z).1 = ci) (h1 : 1 ≤ z) (hI : I z = fun _ => 0) (hP : P z = fun _ => none) (kk : xp G M (pc + 3) lv (.ref z :: st) (z + 1, I, P) bc bs post) : xp G M pc lv st (z, I, P) (bc + 1) (bs + xNF ci) post :=
  xq_new hd hn ht h1 (by rw [x_z_id hI, x_n_id hP]; exact kk)
theorem xz_newI {N : Nat} {n : Int32} (hd : decode M.2.1 pc = .ok (.newarray .int, 2)) (h0 : ¬ n < 0) (hN : n.toNatClampNeg = N) (hN2 : N ≤ 1000) (hT : xTY z = (100, N)) (h1 : 1 ≤ z) (hI : I z = fun _ => 0) (kk : xp G M (pc + 2) lv (.ref z :: st) (z + 1, I, P) bc bs post) : xp G M pc lv (.int n :: st) (z, I, P) (bc + 1) (bs + N) post :=
  xq_newI hd h0 hN hN2 hT h1 (by rw [x_z_id hI]; exact kk)
theorem xz_newZ {N : Nat} {n : Int32} (hd : decode M.2.1 pc = .ok (.newarray .boolean, 2)) (h0 : ¬ n < 0) (hN : n.toNatClampNeg = N) (hN2 : N ≤ 1000) (hT : xTY z = (101, N)) (h1 : 1 ≤ z) (hI : I z = fun _ => 0) (kk : xp G M (pc + 2) lv (.ref z :: st) (z + 1, I, P) bc bs post) : xp G M pc lv (.int n :: st) (z, I, P) (bc + 1) (bs + N) post :=
  xq_newZ hd h0 hN hN2 hT h1 (by rw [x_z_id hI]; exact kk)
theorem xz_newA {kd N : Nat} {n : Int32} (hd : decode M.2.1 pc = .ok (.anewarray idx, 3)) (hk : 102 ≤ kd ∧ kd < 105) (hcl : Cond.classLink M.1.cls idx (xAC kd) ∈ xGW) (hA : xAC kd ∈ xAO) (h0 : ¬ n < 0) (hN : n.toNatClampNeg = N) (hN2 : N ≤ 1000) (hT : xTY z = (kd, N)) (h1 : 1 ≤ z) (hP : P z = fun _ => none) (kk : xp G M (pc + 3) lv (.ref z :: st) (z + 1, I, P) bc bs post) : xp G M pc lv (.int n :: st) (z, I, P) (bc + 1) (bs + N) post :=
  xq_newA hd hk hcl hA h0 hN hN2 hT h1 (by rw [x_n_id hP]; exact kk)
end xz
section partAE
variable {G : xG} {z : Nat} {I : xI} {P : xP} {post : Option Value → xH → Prop} {h0 : xH}
set_option maxRecDepth 100000 in
set_option maxHeartbeats 1000000 in
theorem c_S_init {a : Nat} (hp : post none h0) : xp G M_S_init 0 [(0, .ref a)] [] h0 0 0 post := by
  refine xp_aload_n d_S_init_0 rfl ?_
  refine xp_objInit d_S_init_1 g_S_init_3 im_objInit co_objInit ⟨Nat.le_of_ble_eq_true rfl, Nat.le_of_ble_eq_true rfl⟩ ?_
  refine xp_return_ d_S_init_4 rfl ?_
  exact hp
set_option maxRecDepth 100000 in
set_option maxHeartbeats 1000000 in
theorem c_L_init {a : Nat} (hp : post none h0) : xp G M_L_init 0 [(0, .ref a)] [] h0 0 0 post := by
  refine xp_aload_n d_L_init_0 rfl ?_
  refine xp_objInit d_L_init_1 g_L_init_3 im_objInit co_objInit ⟨Nat.le_of_ble_eq_true rfl, Nat.le_of_ble_eq_true rfl⟩ ?_
  refine xp_return_ d_L_init_4 rfl ?_
  exact hp
set_option maxRecDepth 100000 in
set_option maxHeartbeats 1000000 in
theorem c_O_init {a : Nat} (ha : x_at 4 z a) (h1 : 1 ≤ z) (t1 : xTY z = (100, 16)) (t2 : xTY (z + 1) = (101, 16)) (hZ : x_Z z I P) (hp : post none (z + 2, I, x_upP (x_upP P a 0 (some z)) a 1 (some (z + 1)))) : xp G M_O_init 0 [(0, .ref a)] [] (z, I, P) 2 32 post := by
  refine xp_aload_n d_O_init_0 rfl ?_
  refine xp_objInit d_O_init_1 g_O_init_3 im_objInit co_objInit ⟨Nat.le_of_ble_eq_true rfl, Nat.le_of_ble_eq_true rfl⟩ ?_
  refine xp_aload_n d_O_init_4 rfl ?_
  refine xp_bipush (v := 16) d_O_init_5 (by decide) ?_
  refine xz_newI (bc := 1) (bs := 16) d_O_init_7 (N := 16) (by decide) (by decide) (by decide) (by assumption) (by omega) (by (repeat rw [x_up_row (by omega)]); exact (hZ _ (by omega)).1) ?_
  refine xq_putRF d_O_init_9 f_O_9 (Or.inr ⟨_, rfl⟩) rfl (by first | assumption | exact x_at_mono (by assumption) (by omega)) ?_
  refine xp_aload_n d_O_init_12 rfl ?_
  refine xp_bipush (v := 16) d_O_init_13 (by decide) ?_
  refine xz_newZ (bc := 0) (bs := 0) d_O_init_15 (N := 16) (by decide) (by decide) (by decide) (by assumption) (by omega) (by (repeat rw [x_up_row (by omega)]); exact (hZ _ (by omega)).1) ?_
  refine xq_putRF d_O_init_17 f_O_15 (Or.inr ⟨_, rfl⟩) rfl (by first | assumption | exact x_at_mono (by assumption) (by omega)) ?_
  refine xp_return_ d_O_init_20 rfl ?_
  exact hp
set_option maxRecDepth 100000 in
set_option maxHeartbeats 1000000 in
theorem c_F_init {a : Nat} (ha : x_at 1 z a) (h1 : 1 ≤ z) (t1 : xTY z = (100, 18)) (hZ : x_Z z I P) (hp : post none (z + 1, I, x_upP P a 0 (some z))) : xp G M_F_init 0 [(0, .ref a)] [] (z, I, P) 1 18 post := by
  refine xp_aload_n d_F_init_0 rfl ?_
  refine xp_objInit d_F_init_1 g_F_init_5 im_objInit co_objInit ⟨Nat.le_of_ble_eq_true rfl, Nat.le_of_ble_eq_true rfl⟩ ?_
  refine xp_aload_n d_F_init_4 rfl ?_
  refine xp_bipush (v := 18) d_F_init_5 (by decide) ?_
  refine xz_newI (bc := 0) (bs := 0) d_F_init_7 (N := 18) (by decide) (by decide) (by decide) (by assumption) (by omega) (by (repeat rw [x_up_row (by omega)]); exact (hZ _ (by omega)).1) ?_
  refine xq_putRF d_F_init_9 f_F_11 (Or.inr ⟨_, rfl⟩) rfl (by first | assumption | exact x_at_mono (by assumption) (by omega)) ?_
  refine xp_return_ d_F_init_12 rfl ?_
  exact hp
/-- a node's pointers laid -/
def k_nP (P : xP) (nd : Nat) : xP := x_upP (x_upP (x_upP (x_upP (x_upP (x_upP P (nd + 1) 0 (some (nd + 2))) (nd + 1) 1 (some (nd + 3))) nd 1 (some (nd + 1))) nd 2 (some (nd + 4))) nd 3 (some (nd + 5))) nd 4 (some (nd + 6))
def k_nS (P : xP) (nd : Nat) : Nat → xP
  | 0 => P
  | k + 1 => x_upP (k_nS P nd k) (nd + 6) k (some (nd + 7 + k))
def k_nI (I : xI) (nd : Nat) (n : Int32) : xI := x_up (x_up (x_up I nd 0 n) nd 6 n) nd 7 n
theorem k_nS_row {P : xP} {nd a : Nat} (h : a ≠ nd + 6) : ∀ k, k_nS P nd k a = P a
  | 0 => rfl
  | k + 1 => by
    show x_upP (k_nS P nd k) (nd + 6) k _ a = _
    rw [x_upP_row h, k_nS_row h k]
theorem k_nP_row {P : xP} {nd a : Nat} (h : a ≠ nd) (h2 : a ≠ nd + 1) : k_nP P nd a = P a := by
  unfold k_nP
  rw [x_upP_row h, x_upP_row h, x_upP_row h, x_upP_row h, x_upP_row h2, x_upP_row h2]
theorem k_nI_row {I : xI} {nd a : Nat} {n : Int32} (h : a ≠ nd) : k_nI I nd n a = I a := by
  unfold k_nI
  rw [x_up_row h, x_up_row h, x_up_row h]
set_option maxRecDepth 100000 in
set_option maxHeartbeats 1000000 in
theorem l_N_init_59 {n : Nat} (hn : n < 6) (hs : P (8 + 10 * n) 4 = some (8 + 10 * n + 6)) (hZ : x_Z (8 + 10 * n + 7) I P) (hp : post none (8 + 10 * n + 7 + 3, I, k_nS P (8 + 10 * n) 3)) : ∀ q k : Nat, q + k = 3 → xp G M_N_init 59 [(0, .ref (8 + 10 * n)), (2, .int (nI k))] [] (8 + 10 * n + 7 + k, I, k_nS P (8 + 10 * n) k) q (4 * q) post := by
  intro q
  induction q with
  | zero =>
    intro k hk
    have hk : k = 3 := by omega
    subst hk
    refine xp_iload_n d_N_init_59 rfl ?_
    refine xp_iconst (v := 3) d_N_init_60 (by decide) ?_
    refine xp_icmp_ge (tgt := 83) d_N_init_61 (by decide) (fun c61 => ?_) (fun c61 => absurd (show (3 : Int32) ≤ nI 3 by decide) c61)
    refine xp_return_ d_N_init_83 rfl ?_
    exact hp
  | succ q ih =>
    intro k hk
    have tN : x_at 6 (8 + 10 * n + 7 + k) (8 + 10 * n) := ⟨by rw [show 8 + 10 * n = 8 + 10 * n + 0 by omega, xTY_n hn (by decide)]; rfl, by omega, by omega⟩
    have tS : x_ar 104 3 (8 + 10 * n + 7 + k + 1) (8 + 10 * n + 6) := ⟨(xTY_n (r := 6) hn (by decide)), by omega, by omega⟩
    have hTk : (xTY (8 + 10 * n + 7 + k)).1 = 3 := by
      rw [show 8 + 10 * n + 7 + k = 8 + 10 * n + (7 + k) by omega, xTY_n hn (by omega)]
      rcases (show k = 0 ∨ k = 1 ∨ k = 2 by omega) with rfl | rfl | rfl <;> rfl
    have tK : x_at 3 (8 + 10 * n + 7 + k + 1) (8 + 10 * n + 7 + k) := ⟨hTk, by omega, by omega⟩
    have hs2 : k_nS P (8 + 10 * n) k (8 + 10 * n) 4 = some (8 + 10 * n + 6) := by rw [k_nS_row (by omega)]; exact hs
    refine xp_iload_n d_N_init_59 rfl ?_
    refine xp_iconst (v := 3) d_N_init_60 (by decide) ?_
    refine xp_icmp_ge (tgt := 83) d_N_init_61 (by decide) (fun c61 => absurd c61 (fun e => by have := (nI_leI (a := 3) (b := k) (by decide) (by omega)).mp e; omega)) (fun c61 => ?_)
    refine xp_aload_n d_N_init_64 rfl ?_
    refine xq_getR d_N_init_65 fg_N_33 (by first | assumption | exact x_at_mono (by assumption) (by omega)) (by first | assumption | exact x_at_mono (by assumption) (by omega)) ?_
    refine xp_iload_n d_N_init_68 rfl ?_
    refine xz_new (bc := q) (bs := 4 * q) (ci := 3) d_N_init_69 n_N_31 hTk (by omega) (by (repeat rw [x_up_row (by omega)]); exact (hZ _ (by omega)).1) (by rw [k_nS_row (by omega)]; exact (hZ _ (by omega)).2) ?_
    refine xp_dup d_N_init_72 rfl ?_
    refine xq_J0v d_N_init_73 g_N_init_47 rfl rfl ?_
    refine c_S_init ?_
    refine ⟨rfl, ?_⟩
    refine xq_aastore d_N_init_76 (by first | assumption | exact x_at_mono (by assumption) (by omega)) (by decide) rfl (by omega) (by decide) (by first | assumption | exact x_at_mono (by assumption) (by omega)) (by decide) rfl ?_
    refine xp_inc1 d_N_init_77 rfl (by decide) ?_
    refine xp_goto (tgt := 59) d_N_init_80 (by decide) ?_
    refine xp_loc (lv' := [(0, .ref (8 + 10 * n)), (2, .int (nI (k + 1)))]) ⟨rfl, rfl, trivial⟩ ?_
    exact ih (k + 1) (by omega)
set_option maxRecDepth 100000 in
set_option maxHeartbeats 1000000 in
theorem c_N_init {n : Nat} (hn : n < 6) (hZ : x_Z (8 + 10 * n + 1) I P) (hp : post none (8 + 10 * n + 10, k_nI I (8 + 10 * n) (nI n), k_nS (k_nP P (8 + 10 * n)) (8 + 10 * n) 3)) : xp G M_N_init 0 [(0, .ref (8 + 10 * n)), (1, .int (nI n))] [] (8 + 10 * n + 1, I, P) 9 57 post := by
  have tN : x_at 6 (8 + 10 * n + 1) (8 + 10 * n) := ⟨by rw [show 8 + 10 * n = 8 + 10 * n + 0 by omega, xTY_n hn (by decide)]; rfl, by omega, by omega⟩
  have tO : x_at 4 (8 + 10 * n + 1 + 1) (8 + 10 * n + 1) := ⟨(by rw [xTY_n (r := 1) hn (by decide)]; rfl), by omega, by omega⟩
  refine xp_aload_n d_N_init_0 rfl ?_
  refine xp_objInit d_N_init_1 g_N_init_3 im_objInit co_objInit ⟨Nat.le_of_ble_eq_true rfl, Nat.le_of_ble_eq_true rfl⟩ ?_
  refine xp_aload_n d_N_init_4 rfl ?_
  refine xz_new (bc := 8) (bs := 55) (ci := 4) d_N_init_5 n_N_9 (by rw [xTY_n (r := 1) hn (by decide)]; rfl) (by omega) (by (repeat rw [x_up_row (by omega)]); exact (hZ _ (by omega)).1) (by (repeat rw [x_upP_row (by omega)]); exact (hZ _ (by omega)).2) ?_
  refine xp_dup d_N_init_8 rfl ?_
  refine xq_J0vb (mc := 2) (ms := 32) (bc := 6) (bs := 23) d_N_init_9 g_N_init_11 rfl rfl ?_
  refine c_O_init tO (by omega) (xTY_n (r := 2) hn (by decide)) (xTY_n (r := 3) hn (by decide)) (x_Z_mono hZ (by omega)) ?_
  refine ⟨rfl, ?_⟩
  refine xq_putRF d_N_init_12 f_N_12 (Or.inl ⟨_, rfl⟩) rfl (by first | assumption | exact x_at_mono (by assumption) (by omega)) ?_
  refine xp_aload_n d_N_init_15 rfl ?_
  refine xz_new (bc := 5) (bs := 19) (ci := 5) d_N_init_16 n_N_18 (by rw [xTY_n (r := 4) hn (by decide)]; rfl) (by omega) (by (repeat rw [x_up_row (by omega)]); exact (hZ _ (by omega)).1) (by (repeat rw [x_upP_row (by omega)]); exact (hZ _ (by omega)).2) ?_
  refine xp_dup d_N_init_19 rfl ?_
  refine xq_J0v d_N_init_20 g_N_init_20 rfl rfl ?_
  refine c_L_init ?_
  refine ⟨rfl, ?_⟩
  refine xq_putRF d_N_init_23 f_N_21 (Or.inl ⟨_, rfl⟩) rfl (by first | assumption | exact x_at_mono (by assumption) (by omega)) ?_
  refine xp_aload_n d_N_init_26 rfl ?_
  refine xp_iconst (v := 4) d_N_init_27 (by decide) ?_
  refine xz_newA (bc := 4) (bs := 15) d_N_init_28 (kd := 103) (by decide) cl_N_25 (by decide) (N := 4) (by decide) (by decide) (by decide) (xTY_n (r := 5) hn (by decide)) (by omega) (by (repeat rw [x_upP_row (by omega)]); exact (hZ _ (by omega)).2) ?_
  refine xq_putRF d_N_init_31 f_N_27 (Or.inr ⟨_, rfl⟩) rfl (by first | assumption | exact x_at_mono (by assumption) (by omega)) ?_
  refine xp_aload_n d_N_init_34 rfl ?_
  refine xp_iconst (v := 3) d_N_init_35 (by decide) ?_
  refine xz_newA (bc := 3) (bs := 12) d_N_init_36 (kd := 104) (by decide) cl_N_31 (by decide) (N := 3) (by decide) (by decide) (by decide) (xTY_n (r := 6) hn (by decide)) (by omega) (by (repeat rw [x_upP_row (by omega)]); exact (hZ _ (by omega)).2) ?_
  refine xq_putRF d_N_init_39 f_N_33 (Or.inr ⟨_, rfl⟩) rfl (by first | assumption | exact x_at_mono (by assumption) (by omega)) ?_
  refine xp_aload_n d_N_init_42 rfl ?_
  refine xp_iload_n d_N_init_43 rfl ?_
  refine xq_putIF d_N_init_44 f_N_37 rfl (by first | assumption | exact x_at_mono (by assumption) (by omega)) ?_
  refine xp_aload_n d_N_init_47 rfl ?_
  refine xp_iload_n d_N_init_48 rfl ?_
  refine xq_putI d_N_init_49 f_N_41 (by first | assumption | exact x_at_mono (by assumption) (by omega)) ?_
  refine xp_aload_n d_N_init_52 rfl ?_
  refine xp_iload_n d_N_init_53 rfl ?_
  refine xq_putI d_N_init_54 f_N_44 (by first | assumption | exact x_at_mono (by assumption) (by omega)) ?_
  refine xp_iconst (v := 0) d_N_init_57 (by decide) ?_
  refine xp_istore_n d_N_init_58 (by decide) ?_
  refine xp_loc (lv' := [(0, .ref (8 + 10 * n)), (2, .int (nI 0))]) ⟨rfl, rfl, trivial⟩ ?_
  refine l_N_init_59 (I := k_nI I (8 + 10 * n) (nI n)) (P := k_nP P (8 + 10 * n)) hn ?_ ?_ hp 3 0 rfl
  · exact x_upP_eq ⟨rfl, rfl⟩
  · intro a ha
    rw [k_nI_row (by omega), k_nP_row (by omega) (by omega)]
    exact hZ a (by omega)
end partAE
