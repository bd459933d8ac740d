/-! the two constructors that the law calls -/
def k_bP0 (P : xP) : xP := x_upP (x_upP (x_upP (x_upP (x_upP (x_upP P 1 0 (some 2)) 1 1 (some 3)) 4 0 (some 5)) 1 2 (some 4)) 6 0 (some 7)) 1 3 (some 6)
def k_bI0 (I : xI) : xI := x_up I 1 5 (-1)
def k_bNI (I : xI) : Nat → xI
  | 0 => I
  | n + 1 => k_nI (k_bNI I n) (8 + 10 * n) (nI n)
def k_bNP (P : xP) : Nat → xP
  | 0 => P
  | n + 1 => x_upP (k_nS (k_nP (k_bNP P n) (8 + 10 * n)) (8 + 10 * n) 3) 2 n (some (8 + 10 * n))
theorem k_bNI_row {I : xI} {a : Nat} : ∀ n, (a < 8 ∨ 8 + 10 * n ≤ a) → k_bNI I n a = I a
  | 0, _ => rfl
  | n + 1, h => by
    show k_nI (k_bNI I n) (8 + 10 * n) (nI n) a = _
    rw [k_nI_row (by omega), k_bNI_row n (by omega)]
theorem k_bNP_row {P : xP} {a : Nat} : ∀ n, ((a < 8 ∧ a ≠ 2) ∨ 8 + 10 * n ≤ a) → k_bNP P n a = P a
  | 0, _ => rfl
  | n + 1, h => by
    show x_upP (k_nS (k_nP (k_bNP P n) (8 + 10 * n)) (8 + 10 * n) 3) 2 n _ a = _
    rw [x_upP_row (by omega), k_nS_row (by omega), k_nP_row (by omega) (by omega), k_bNP_row n (by omega)]
theorem k_bN_Z {I : xI} {P : xP} (h : x_Z 8 I P) (n : Nat) : x_Z (8 + 10 * n) (k_bNI I n) (k_bNP P n) := fun a ha => by
  rw [k_bNI_row n (Or.inr ha), k_bNP_row n (Or.inr ha)]
  exact h a (by omega)
def s_iP (P : xP) : xP := (x_upP (x_upP (x_upP (x_upP (x_upP (x_upP (x_upP (x_upP (x_upP (x_upP (x_upP (x_upP (x_upP (x_upP (x_upP (x_upP (x_upP (x_upP (x_upP (x_upP (x_upP (x_upP (x_upP (x_upP (x_upP (x_upP (x_upP (x_upP (x_upP (x_upP (x_upP (x_upP P 68 0 (some 69)) 68 1 (some 70)) 68 2 (some 71)) 68 3 (some 72)) 68 4 (some 73)) 68 5 (some 74)) 68 6 (some 75)) 68 7 (some 76)) 68 8 (some 77)) 68 9 (some 78)) 68 10 (some 79)) 68 11 (some 80)) 68 13 (some 81)) 68 14 (some 82)) 68 15 (some 83)) 68 16 (some 84)) 68 17 (some 85)) 68 18 (some 86)) 68 19 (some 87)) 68 20 (some 88)) 68 21 (some 89)) 68 23 (some 90)) 68 24 (some 91)) 68 25 (some 92)) 68 26 (some 93)) 68 27 (some 94)) 68 28 (some 95)) 68 29 (some 96)) 68 30 (some 97)) 68 31 (some 98)) 68 40 (some 99)) 68 41 (some 100))
def s_iN (I : xI) : Nat → xI
  | 0 => I
  | n + 1 => x_up (x_up (s_iN I n) 70 n (nI n)) 71 n (nI n)
def s_iI (I : xI) : xI := x_up (s_iN I 6) 68 32 (-1)
section partAG
variable {G : xG} {z : Nat} {I : xI} {P : xP} {post : Option Value → xH → Prop} {h0 : xH}
set_option maxRecDepth 100000 in
set_option maxHeartbeats 1000000 in
theorem l_B_init_51 (hZ : x_Z 8 I P) (h10 : P 1 0 = some 2) (hp : post none (68, k_bNI I 6, k_bNP P 6)) : ∀ q n : Nat, q + n = 6 → xp G M_B_init 51 [(0, .ref 1), (1, .int (nI n))] [] (8 + 10 * n, k_bNI I n, k_bNP P n) (10 * q) (74 * q) post := by
  intro q
  induction q with
  | zero =>
    intro n hk
    have hk : n = 6 := by omega
    subst hk
    refine xp_iload_n d_B_init_51 rfl ?_
    refine xp_bipush (v := 6) d_B_init_52 (by decide) ?_
    refine xp_icmp_ge (tgt := 77) d_B_init_54 (by decide) (fun c54 => ?_) (fun c54 => absurd (show (6 : Int32) ≤ nI 6 by decide) c54)
    refine xp_return_ d_B_init_77 rfl ?_
    exact hp
  | succ q ih =>
    intro n hk
    have hz := k_bN_Z hZ n
    have tB : x_at 0 (8 + 10 * n) 1 := ⟨rfl, by omega, by omega⟩
    have e10 : k_bNP P n 1 0 = some 2 := by rw [k_bNP_row n (by omega)]; exact h10
    have hTn : (xTY (8 + 10 * n)).1 = 6 := by rw [show 8 + 10 * n = 8 + 10 * n + 0 by omega, xTY_n (by omega) (by decide)]; rfl
    have tns : x_ar 102 6 (8 + 10 * n + 10) 2 := ⟨rfl, by omega, by omega⟩
    have tNn : x_at 6 (8 + 10 * n + 10) (8 + 10 * n) := ⟨hTn, by omega, by omega⟩
    refine xp_less (bc' := 10 * q + 9 + 1) (bs' := 74 * q + 57 + xNF 6) (by omega) (by show 74 * q + 57 + 17 ≤ 74 * (q + 1); omega) ?_
    refine xp_iload_n d_B_init_51 rfl ?_
    refine xp_bipush (v := 6) d_B_init_52 (by decide) ?_
    refine xp_icmp_ge (tgt := 77) d_B_init_54 (by decide) (fun c54 => absurd c54 (fun e => by have := (nI_leI (a := 6) (b := n) (by decide) (by omega)).mp e; omega)) (fun c54 => ?_)
    refine xp_aload_n d_B_init_57 rfl ?_
    refine xq_getR d_B_init_58 fg_B_11 (by first | assumption | exact x_at_mono (by assumption) (by omega)) (by first | assumption | exact x_at_mono (by assumption) (by omega)) ?_
    refine xp_iload_n d_B_init_61 rfl ?_
    refine xz_new (bc := 10 * q + 9) (bs := 74 * q + 57) (ci := 6) d_B_init_62 n_B_9 hTn (by omega) (hz _ (by omega)).1 (hz _ (by omega)).2 ?_
    refine xp_dup d_B_init_65 rfl ?_
    refine xp_iload_n d_B_init_66 rfl ?_
    refine xq_I1vb (mc := 9) (ms := 57) (bc := 10 * q) (bs := 74 * q) d_B_init_67 g_B_init_35 rfl rfl ?_
    refine c_N_init (by omega) (x_Z_mono hz (by omega)) ?_
    refine ⟨rfl, ?_⟩
    refine xq_aastore d_B_init_70 tns (by decide) rfl (by omega) (by decide) tNn (by decide) rfl ?_
    refine xp_inc1 d_B_init_71 rfl (by decide) ?_
    refine xp_goto (tgt := 51) d_B_init_74 (by decide) ?_
    refine xp_loc (lv' := [(0, .ref 1), (1, .int (nI (n + 1)))]) ⟨rfl, rfl, trivial⟩ ?_
    have hh := ih (n + 1) (by omega)
    rw [show 8 + 10 * (n + 1) = 8 + 10 * n + 10 by omega] at hh
    exact hh
theorem x_Z_u1 {I : xI} {P : xP} (hZ : x_Z 2 I P) : x_Z (2 + 1 + 1 + 1) I (x_upP (x_upP P 1 0 (some 2)) 1 1 (some (2 + 1))) := fun a ha => by
  rw [x_upP_row (by omega), x_upP_row (by omega)]
  exact hZ a (by omega)
theorem x_Z_u2 {I : xI} {P : xP} (hZ : x_Z 2 I P) : x_Z (2 + 1 + 1 + 1 + 1 + 1) I (x_upP (x_upP (x_upP (x_upP P 1 0 (some 2)) 1 1 (some (2 + 1))) (2 + 1 + 1) 0 (some (2 + 1 + 1 + 1))) 1 2 (some (2 + 1 + 1))) := fun a ha => by
  rw [x_upP_row (by omega), x_upP_row (by omega), x_upP_row (by omega), x_upP_row (by omega)]
  exact hZ a (by omega)
set_option maxRecDepth 100000 in
set_option maxHeartbeats 1000000 in
theorem c_B_init (hZ : x_Z 2 I P) (hp : post none (68, k_bNI (k_bI0 I) 6, k_bNP (k_bP0 P) 6)) : xp G M_B_init 0 [(0, .ref 1)] [] (2, I, P) 66 554 post := by
  have tB : x_at 0 2 1 := ⟨rfl, by omega, by omega⟩
  have tF : x_at 1 (2 + 1 + 1 + 1) (2 + 1 + 1) := ⟨rfl, by omega, by omega⟩
  have tG : x_at 1 (2 + 1 + 1 + 1 + 1 + 1) (2 + 1 + 1 + 1 + 1) := ⟨rfl, by omega, by omega⟩
  refine xp_aload_n d_B_init_0 rfl ?_
  refine xp_objInit d_B_init_1 g_B_init_1 im_objInit co_objInit ⟨Nat.le_of_ble_eq_true rfl, Nat.le_of_ble_eq_true rfl⟩ ?_
  refine xp_aload_n d_B_init_4 rfl ?_
  refine xp_bipush (v := 6) d_B_init_5 (by decide) ?_
  refine xz_newA (bc := 65) (bs := 548) d_B_init_7 (kd := 102) (by decide) cl_B_9 (by decide) (N := 6) (by decide) (by decide) (by decide) rfl (by omega) (by (repeat rw [x_upP_row (by omega)]); exact (hZ _ (by omega)).2) ?_
  refine xq_putRF d_B_init_10 f_B_11 (Or.inr ⟨_, rfl⟩) rfl (by first | assumption | exact x_at_mono (by assumption) (by omega)) ?_
  refine xp_aload_n d_B_init_13 rfl ?_
  refine xp_bipush (v := 60) d_B_init_14 (by decide) ?_
  refine xz_newA (bc := 64) (bs := 488) d_B_init_16 (kd := 103) (by decide) cl_B_15 (by decide) (N := 60) (by decide) (by decide) (by decide) rfl (by omega) (by (repeat rw [x_upP_row (by omega)]); exact (hZ _ (by omega)).2) ?_
  refine xq_putRF d_B_init_19 f_B_17 (Or.inr ⟨_, rfl⟩) rfl (by first | assumption | exact x_at_mono (by assumption) (by omega)) ?_
  refine xp_aload_n d_B_init_22 rfl ?_
  refine xz_new (bc := 63) (bs := 484) (ci := 1) d_B_init_23 n_B_21 rfl (by omega) (by (repeat rw [x_up_row (by omega)]); exact (hZ _ (by omega)).1) (by (repeat rw [x_upP_row (by omega)]); exact (hZ _ (by omega)).2) ?_
  refine xp_dup d_B_init_26 rfl ?_
  refine xq_J0vb (mc := 1) (ms := 18) (bc := 62) (bs := 466) d_B_init_27 g_B_init_23 rfl rfl ?_
  refine c_F_init tF (by omega) rfl (x_Z_u1 hZ) ?_
  refine ⟨rfl, ?_⟩
  refine xq_putRF d_B_init_30 f_B_24 (Or.inl ⟨_, rfl⟩) rfl (by first | assumption | exact x_at_mono (by assumption) (by omega)) ?_
  refine xp_aload_n d_B_init_33 rfl ?_
  refine xz_new (bc := 61) (bs := 462) (ci := 1) d_B_init_34 n_B_21 rfl (by omega) (by (repeat rw [x_up_row (by omega)]); exact (hZ _ (by omega)).1) (by (repeat rw [x_upP_row (by omega)]); exact (hZ _ (by omega)).2) ?_
  refine xp_dup d_B_init_37 rfl ?_
  refine xq_J0vb (mc := 1) (ms := 18) (bc := 60) (bs := 444) d_B_init_38 g_B_init_23 rfl rfl ?_
  refine c_F_init tG (by omega) rfl (x_Z_u2 hZ) ?_
  refine ⟨rfl, ?_⟩
  refine xq_putRF d_B_init_41 f_B_28 (Or.inl ⟨_, rfl⟩) rfl (by first | assumption | exact x_at_mono (by assumption) (by omega)) ?_
  refine xp_aload_n d_B_init_44 rfl ?_
  refine xp_iconst (v := -1) d_B_init_45 (by decide) ?_
  refine xq_putI d_B_init_46 f_B_31 (by first | assumption | exact x_at_mono (by assumption) (by omega)) ?_
  refine xp_iconst (v := 0) d_B_init_49 (by decide) ?_
  refine xp_istore_n d_B_init_50 (by decide) ?_
  refine xp_loc (lv' := [(0, .ref 1), (1, .int (nI 0))]) ⟨rfl, rfl, trivial⟩ ?_
  refine l_B_init_51 (I := k_bI0 I) (P := k_bP0 P) ?_ rfl hp 6 0 rfl
  intro a ha
  unfold k_bI0 k_bP0
  rw [x_up_row (by omega), x_upP_row (by omega), x_upP_row (by omega), x_upP_row (by omega), x_upP_row (by omega), x_upP_row (by omega), x_upP_row (by omega)]
  exact hZ a (by omega)
set_option maxRecDepth 100000 in
set_option maxHeartbeats 1000000 in
theorem l_M_init_261 (h1 : P 68 1 = some 70) (h2 : P 68 2 = some 71) (hp : post none (101, s_iI I, P)) : ∀ q n : Nat, q + n = 6 → xp G M_M_init 261 [(0, .ref 68), (1, .int (nI n))] [] (101, s_iN I n, P) 0 0 post := by
  have tM : x_at 7 101 68 := ⟨rfl, by omega, by omega⟩
  intro q
  induction q with
  | zero =>
    intro n hk
    have hk : n = 6 := by omega
    subst hk
    refine xp_iload_n d_M_init_261 rfl ?_
    refine xp_bipush (v := 6) d_M_init_262 (by decide) ?_
    refine xp_icmp_ge (tgt := 287) d_M_init_264 (by decide) (fun c264 => ?_) (fun c264 => absurd (show (6 : Int32) ≤ nI 6 by decide) c264)
    refine xp_aload_n d_M_init_287 rfl ?_
    refine xp_iconst (v := -1) d_M_init_288 (by decide) ?_
    refine xq_putI d_M_init_289 f_M_107 (by first | assumption | exact ⟨rfl, by omega, by omega⟩) ?_
    refine xp_return_ d_M_init_292 rfl ?_
    exact hp
  | succ q ih =>
    intro n hk
    refine xp_iload_n d_M_init_261 rfl ?_
    refine xp_bipush (v := 6) d_M_init_262 (by decide) ?_
    refine xp_icmp_ge (tgt := 287) d_M_init_264 (by decide) (fun c264 => absurd c264 (fun e => by have := (nI_leI (a := 6) (b := n) (by decide) (by omega)).mp e; omega)) (fun c264 => ?_)
    refine xp_aload_n d_M_init_267 rfl ?_
    refine xq_getR d_M_init_268 fg_M_13 (by first | assumption | exact ⟨rfl, by omega, by omega⟩) (by first | assumption | exact ⟨rfl, by omega, by omega⟩) ?_
    refine xp_iload_n d_M_init_271 rfl ?_
    refine xp_iload_n d_M_init_272 rfl ?_
    refine xq_iastore d_M_init_273 (by first | assumption | exact ⟨rfl, by omega, by omega⟩) rfl (by omega) (by decide) ?_
    refine xp_aload_n d_M_init_274 rfl ?_
    refine xq_getR d_M_init_275 fg_M_17 (by first | assumption | exact ⟨rfl, by omega, by omega⟩) (by first | assumption | exact ⟨rfl, by omega, by omega⟩) ?_
    refine xp_iload_n d_M_init_278 rfl ?_
    refine xp_iload_n d_M_init_279 rfl ?_
    refine xq_iastore d_M_init_280 (by first | assumption | exact ⟨rfl, by omega, by omega⟩) rfl (by omega) (by decide) ?_
    refine xp_inc1 d_M_init_281 rfl (by decide) ?_
    refine xp_goto (tgt := 261) d_M_init_284 (by decide) ?_
    refine xp_loc (lv' := [(0, .ref 68), (1, .int (nI (n + 1)))]) ⟨rfl, rfl, trivial⟩ ?_
    exact ih (n + 1) (by omega)
set_option maxRecDepth 100000 in
set_option maxHeartbeats 1000000 in
theorem c_M_init (hZ : x_Z 69 I P) (hp : post none (101, s_iI I, s_iP P)) : xp G M_M_init 0 [(0, .ref 68)] [] (69, I, P) 32 956 post := by
  have tM : x_at 7 69 68 := ⟨rfl, by omega, by omega⟩
  refine xp_aload_n d_M_init_0 rfl ?_
  refine xp_objInit d_M_init_1 g_M_init_1 im_objInit co_objInit ⟨Nat.le_of_ble_eq_true rfl, Nat.le_of_ble_eq_true rfl⟩ ?_
  refine xp_aload_n d_M_init_4 rfl ?_
  refine xp_bipush (v := 6) d_M_init_5 (by decide) ?_
  refine xz_newZ (bc := 31) (bs := 950) d_M_init_7 (N := 6) (by decide) (by decide) (by decide) rfl (by omega) (by (repeat rw [x_up_row (by omega)]); exact (hZ _ (by omega)).1) ?_
  refine xq_putRF d_M_init_9 f_M_7 (Or.inr ⟨_, rfl⟩) rfl (by first | assumption | exact x_at_mono (by assumption) (by omega)) ?_
  refine xp_aload_n d_M_init_12 rfl ?_
  refine xp_bipush (v := 6) d_M_init_13 (by decide) ?_
  refine xz_newI (bc := 30) (bs := 944) d_M_init_15 (N := 6) (by decide) (by decide) (by decide) rfl (by omega) (by (repeat rw [x_up_row (by omega)]); exact (hZ _ (by omega)).1) ?_
  refine xq_putRF d_M_init_17 f_M_13 (Or.inr ⟨_, rfl⟩) rfl (by first | assumption | exact x_at_mono (by assumption) (by omega)) ?_
  refine xp_aload_n d_M_init_20 rfl ?_
  refine xp_bipush (v := 6) d_M_init_21 (by decide) ?_
  refine xz_newI (bc := 29) (bs := 938) d_M_init_23 (N := 6) (by decide) (by decide) (by decide) rfl (by omega) (by (repeat rw [x_up_row (by omega)]); exact (hZ _ (by omega)).1) ?_
  refine xq_putRF d_M_init_25 f_M_17 (Or.inr ⟨_, rfl⟩) rfl (by first | assumption | exact x_at_mono (by assumption) (by omega)) ?_
  refine xp_aload_n d_M_init_28 rfl ?_
  refine xp_bipush (v := 6) d_M_init_29 (by decide) ?_
  refine xz_newI (bc := 28) (bs := 932) d_M_init_31 (N := 6) (by decide) (by decide) (by decide) rfl (by omega) (by (repeat rw [x_up_row (by omega)]); exact (hZ _ (by omega)).1) ?_
  refine xq_putRF d_M_init_33 f_M_20 (Or.inr ⟨_, rfl⟩) rfl (by first | assumption | exact x_at_mono (by assumption) (by omega)) ?_
  refine xp_aload_n d_M_init_36 rfl ?_
  refine xp_bipush (v := 6) d_M_init_37 (by decide) ?_
  refine xz_newI (bc := 27) (bs := 926) d_M_init_39 (N := 6) (by decide) (by decide) (by decide) rfl (by omega) (by (repeat rw [x_up_row (by omega)]); exact (hZ _ (by omega)).1) ?_
  refine xq_putRF d_M_init_41 f_M_23 (Or.inr ⟨_, rfl⟩) rfl (by first | assumption | exact x_at_mono (by assumption) (by omega)) ?_
  refine xp_aload_n d_M_init_44 rfl ?_
  refine xp_bipush (v := 6) d_M_init_45 (by decide) ?_
  refine xz_newI (bc := 26) (bs := 920) d_M_init_47 (N := 6) (by decide) (by decide) (by decide) rfl (by omega) (by (repeat rw [x_up_row (by omega)]); exact (hZ _ (by omega)).1) ?_
  refine xq_putRF d_M_init_49 f_M_26 (Or.inr ⟨_, rfl⟩) rfl (by first | assumption | exact x_at_mono (by assumption) (by omega)) ?_
  refine xp_aload_n d_M_init_52 rfl ?_
  refine xp_bipush (v := 6) d_M_init_53 (by decide) ?_
  refine xz_newI (bc := 25) (bs := 914) d_M_init_55 (N := 6) (by decide) (by decide) (by decide) rfl (by omega) (by (repeat rw [x_up_row (by omega)]); exact (hZ _ (by omega)).1) ?_
  refine xq_putRF d_M_init_57 f_M_29 (Or.inr ⟨_, rfl⟩) rfl (by first | assumption | exact x_at_mono (by assumption) (by omega)) ?_
  refine xp_aload_n d_M_init_60 rfl ?_
  refine xp_bipush (v := 6) d_M_init_61 (by decide) ?_
  refine xz_newI (bc := 24) (bs := 908) d_M_init_63 (N := 6) (by decide) (by decide) (by decide) rfl (by omega) (by (repeat rw [x_up_row (by omega)]); exact (hZ _ (by omega)).1) ?_
  refine xq_putRF d_M_init_65 f_M_32 (Or.inr ⟨_, rfl⟩) rfl (by first | assumption | exact x_at_mono (by assumption) (by omega)) ?_
  refine xp_aload_n d_M_init_68 rfl ?_
  refine xp_bipush (v := 6) d_M_init_69 (by decide) ?_
  refine xz_newI (bc := 23) (bs := 902) d_M_init_71 (N := 6) (by decide) (by decide) (by decide) rfl (by omega) (by (repeat rw [x_up_row (by omega)]); exact (hZ _ (by omega)).1) ?_
  refine xq_putRF d_M_init_73 f_M_35 (Or.inr ⟨_, rfl⟩) rfl (by first | assumption | exact x_at_mono (by assumption) (by omega)) ?_
  refine xp_aload_n d_M_init_76 rfl ?_
  refine xp_bipush (v := 6) d_M_init_77 (by decide) ?_
  refine xz_newI (bc := 22) (bs := 896) d_M_init_79 (N := 6) (by decide) (by decide) (by decide) rfl (by omega) (by (repeat rw [x_up_row (by omega)]); exact (hZ _ (by omega)).1) ?_
  refine xq_putRF d_M_init_81 f_M_38 (Or.inr ⟨_, rfl⟩) rfl (by first | assumption | exact x_at_mono (by assumption) (by omega)) ?_
  refine xp_aload_n d_M_init_84 rfl ?_
  refine xp_bipush (v := 102) d_M_init_85 (by decide) ?_
  refine xz_newI (bc := 21) (bs := 794) d_M_init_87 (N := 102) (by decide) (by decide) (by decide) rfl (by omega) (by (repeat rw [x_up_row (by omega)]); exact (hZ _ (by omega)).1) ?_
  refine xq_putRF d_M_init_89 f_M_41 (Or.inr ⟨_, rfl⟩) rfl (by first | assumption | exact x_at_mono (by assumption) (by omega)) ?_
  refine xp_aload_n d_M_init_92 rfl ?_
  refine xp_bipush (v := 102) d_M_init_93 (by decide) ?_
  refine xz_newZ (bc := 20) (bs := 692) d_M_init_95 (N := 102) (by decide) (by decide) (by decide) rfl (by omega) (by (repeat rw [x_up_row (by omega)]); exact (hZ _ (by omega)).1) ?_
  refine xq_putRF d_M_init_97 f_M_44 (Or.inr ⟨_, rfl⟩) rfl (by first | assumption | exact x_at_mono (by assumption) (by omega)) ?_
  refine xp_aload_n d_M_init_100 rfl ?_
  refine xp_bipush (v := 60) d_M_init_101 (by decide) ?_
  refine xz_newI (bc := 19) (bs := 632) d_M_init_103 (N := 60) (by decide) (by decide) (by decide) rfl (by omega) (by (repeat rw [x_up_row (by omega)]); exact (hZ _ (by omega)).1) ?_
  refine xq_putRF d_M_init_105 f_M_47 (Or.inr ⟨_, rfl⟩) rfl (by first | assumption | exact x_at_mono (by assumption) (by omega)) ?_
  refine xp_aload_n d_M_init_108 rfl ?_
  refine xp_bipush (v := 60) d_M_init_109 (by decide) ?_
  refine xz_newI (bc := 18) (bs := 572) d_M_init_111 (N := 60) (by decide) (by decide) (by decide) rfl (by omega) (by (repeat rw [x_up_row (by omega)]); exact (hZ _ (by omega)).1) ?_
  refine xq_putRF d_M_init_113 f_M_50 (Or.inr ⟨_, rfl⟩) rfl (by first | assumption | exact x_at_mono (by assumption) (by omega)) ?_
  refine xp_aload_n d_M_init_116 rfl ?_
  refine xp_bipush (v := 60) d_M_init_117 (by decide) ?_
  refine xz_newI (bc := 17) (bs := 512) d_M_init_119 (N := 60) (by decide) (by decide) (by decide) rfl (by omega) (by (repeat rw [x_up_row (by omega)]); exact (hZ _ (by omega)).1) ?_
  refine xq_putRF d_M_init_121 f_M_53 (Or.inr ⟨_, rfl⟩) rfl (by first | assumption | exact x_at_mono (by assumption) (by omega)) ?_
  refine xp_aload_n d_M_init_124 rfl ?_
  refine xp_bipush (v := 60) d_M_init_125 (by decide) ?_
  refine xz_newI (bc := 16) (bs := 452) d_M_init_127 (N := 60) (by decide) (by decide) (by decide) rfl (by omega) (by (repeat rw [x_up_row (by omega)]); exact (hZ _ (by omega)).1) ?_
  refine xq_putRF d_M_init_129 f_M_56 (Or.inr ⟨_, rfl⟩) rfl (by first | assumption | exact x_at_mono (by assumption) (by omega)) ?_
  refine xp_aload_n d_M_init_132 rfl ?_
  refine xp_bipush (v := 60) d_M_init_133 (by decide) ?_
  refine xz_newI (bc := 15) (bs := 392) d_M_init_135 (N := 60) (by decide) (by decide) (by decide) rfl (by omega) (by (repeat rw [x_up_row (by omega)]); exact (hZ _ (by omega)).1) ?_
  refine xq_putRF d_M_init_137 f_M_59 (Or.inr ⟨_, rfl⟩) rfl (by first | assumption | exact x_at_mono (by assumption) (by omega)) ?_
  refine xp_aload_n d_M_init_140 rfl ?_
  refine xp_bipush (v := 60) d_M_init_141 (by decide) ?_
  refine xz_newI (bc := 14) (bs := 332) d_M_init_143 (N := 60) (by decide) (by decide) (by decide) rfl (by omega) (by (repeat rw [x_up_row (by omega)]); exact (hZ _ (by omega)).1) ?_
  refine xq_putRF d_M_init_145 f_M_62 (Or.inr ⟨_, rfl⟩) rfl (by first | assumption | exact x_at_mono (by assumption) (by omega)) ?_
  refine xp_aload_n d_M_init_148 rfl ?_
  refine xp_bipush (v := 60) d_M_init_149 (by decide) ?_
  refine xz_newZ (bc := 13) (bs := 272) d_M_init_151 (N := 60) (by decide) (by decide) (by decide) rfl (by omega) (by (repeat rw [x_up_row (by omega)]); exact (hZ _ (by omega)).1) ?_
  refine xq_putRF d_M_init_153 f_M_65 (Or.inr ⟨_, rfl⟩) rfl (by first | assumption | exact x_at_mono (by assumption) (by omega)) ?_
  refine xp_aload_n d_M_init_156 rfl ?_
  refine xp_bipush (v := 60) d_M_init_157 (by decide) ?_
  refine xz_newZ (bc := 12) (bs := 212) d_M_init_159 (N := 60) (by decide) (by decide) (by decide) rfl (by omega) (by (repeat rw [x_up_row (by omega)]); exact (hZ _ (by omega)).1) ?_
  refine xq_putRF d_M_init_161 f_M_68 (Or.inr ⟨_, rfl⟩) rfl (by first | assumption | exact x_at_mono (by assumption) (by omega)) ?_
  refine xp_aload_n d_M_init_164 rfl ?_
  refine xp_bipush (v := 60) d_M_init_165 (by decide) ?_
  refine xz_newI (bc := 11) (bs := 152) d_M_init_167 (N := 60) (by decide) (by decide) (by decide) rfl (by omega) (by (repeat rw [x_up_row (by omega)]); exact (hZ _ (by omega)).1) ?_
  refine xq_putRF d_M_init_169 f_M_71 (Or.inr ⟨_, rfl⟩) rfl (by first | assumption | exact x_at_mono (by assumption) (by omega)) ?_
  refine xp_aload_n d_M_init_172 rfl ?_
  refine xp_bipush (v := 18) d_M_init_173 (by decide) ?_
  refine xz_newI (bc := 10) (bs := 134) d_M_init_175 (N := 18) (by decide) (by decide) (by decide) rfl (by omega) (by (repeat rw [x_up_row (by omega)]); exact (hZ _ (by omega)).1) ?_
  refine xq_putRF d_M_init_177 f_M_74 (Or.inr ⟨_, rfl⟩) rfl (by first | assumption | exact x_at_mono (by assumption) (by omega)) ?_
  refine xp_aload_n d_M_init_180 rfl ?_
  refine xp_bipush (v := 18) d_M_init_181 (by decide) ?_
  refine xz_newI (bc := 9) (bs := 116) d_M_init_183 (N := 18) (by decide) (by decide) (by decide) rfl (by omega) (by (repeat rw [x_up_row (by omega)]); exact (hZ _ (by omega)).1) ?_
  refine xq_putRF d_M_init_185 f_M_77 (Or.inr ⟨_, rfl⟩) rfl (by first | assumption | exact x_at_mono (by assumption) (by omega)) ?_
  refine xp_aload_n d_M_init_188 rfl ?_
  refine xp_bipush (v := 18) d_M_init_189 (by decide) ?_
  refine xz_newI (bc := 8) (bs := 98) d_M_init_191 (N := 18) (by decide) (by decide) (by decide) rfl (by omega) (by (repeat rw [x_up_row (by omega)]); exact (hZ _ (by omega)).1) ?_
  refine xq_putRF d_M_init_193 f_M_80 (Or.inr ⟨_, rfl⟩) rfl (by first | assumption | exact x_at_mono (by assumption) (by omega)) ?_
  refine xp_aload_n d_M_init_196 rfl ?_
  refine xp_bipush (v := 18) d_M_init_197 (by decide) ?_
  refine xz_newI (bc := 7) (bs := 80) d_M_init_199 (N := 18) (by decide) (by decide) (by decide) rfl (by omega) (by (repeat rw [x_up_row (by omega)]); exact (hZ _ (by omega)).1) ?_
  refine xq_putRF d_M_init_201 f_M_83 (Or.inr ⟨_, rfl⟩) rfl (by first | assumption | exact x_at_mono (by assumption) (by omega)) ?_
  refine xp_aload_n d_M_init_204 rfl ?_
  refine xp_bipush (v := 18) d_M_init_205 (by decide) ?_
  refine xz_newZ (bc := 6) (bs := 62) d_M_init_207 (N := 18) (by decide) (by decide) (by decide) rfl (by omega) (by (repeat rw [x_up_row (by omega)]); exact (hZ _ (by omega)).1) ?_
  refine xq_putRF d_M_init_209 f_M_86 (Or.inr ⟨_, rfl⟩) rfl (by first | assumption | exact x_at_mono (by assumption) (by omega)) ?_
  refine xp_aload_n d_M_init_212 rfl ?_
  refine xp_bipush (v := 6) d_M_init_213 (by decide) ?_
  refine xz_newI (bc := 5) (bs := 56) d_M_init_215 (N := 6) (by decide) (by decide) (by decide) rfl (by omega) (by (repeat rw [x_up_row (by omega)]); exact (hZ _ (by omega)).1) ?_
  refine xq_putRF d_M_init_217 f_M_89 (Or.inr ⟨_, rfl⟩) rfl (by first | assumption | exact x_at_mono (by assumption) (by omega)) ?_
  refine xp_aload_n d_M_init_220 rfl ?_
  refine xp_bipush (v := 6) d_M_init_221 (by decide) ?_
  refine xz_newI (bc := 4) (bs := 50) d_M_init_223 (N := 6) (by decide) (by decide) (by decide) rfl (by omega) (by (repeat rw [x_up_row (by omega)]); exact (hZ _ (by omega)).1) ?_
  refine xq_putRF d_M_init_225 f_M_92 (Or.inr ⟨_, rfl⟩) rfl (by first | assumption | exact x_at_mono (by assumption) (by omega)) ?_
  refine xp_aload_n d_M_init_228 rfl ?_
  refine xp_bipush (v := 6) d_M_init_229 (by decide) ?_
  refine xz_newI (bc := 3) (bs := 44) d_M_init_231 (N := 6) (by decide) (by decide) (by decide) rfl (by omega) (by (repeat rw [x_up_row (by omega)]); exact (hZ _ (by omega)).1) ?_
  refine xq_putRF d_M_init_233 f_M_95 (Or.inr ⟨_, rfl⟩) rfl (by first | assumption | exact x_at_mono (by assumption) (by omega)) ?_
  refine xp_aload_n d_M_init_236 rfl ?_
  refine xp_bipush (v := 6) d_M_init_237 (by decide) ?_
  refine xz_newI (bc := 2) (bs := 38) d_M_init_239 (N := 6) (by decide) (by decide) (by decide) rfl (by omega) (by (repeat rw [x_up_row (by omega)]); exact (hZ _ (by omega)).1) ?_
  refine xq_putRF d_M_init_241 f_M_98 (Or.inr ⟨_, rfl⟩) rfl (by first | assumption | exact x_at_mono (by assumption) (by omega)) ?_
  refine xp_aload_n d_M_init_244 rfl ?_
  refine xp_bipush (v := 36) d_M_init_245 (by decide) ?_
  refine xz_newI (bc := 1) (bs := 2) d_M_init_247 (N := 36) (by decide) (by decide) (by decide) rfl (by omega) (by (repeat rw [x_up_row (by omega)]); exact (hZ _ (by omega)).1) ?_
  refine xq_putRF d_M_init_249 f_M_101 (Or.inr ⟨_, rfl⟩) rfl (by first | assumption | exact x_at_mono (by assumption) (by omega)) ?_
  refine xp_aload_n d_M_init_252 rfl ?_
  refine xp_iconst (v := 2) d_M_init_253 (by decide) ?_
  refine xz_newI (bc := 0) (bs := 0) d_M_init_254 (N := 2) (by decide) (by decide) (by decide) rfl (by omega) (by (repeat rw [x_up_row (by omega)]); exact (hZ _ (by omega)).1) ?_
  refine xq_putRF d_M_init_256 f_M_104 (Or.inr ⟨_, rfl⟩) rfl (by first | assumption | exact x_at_mono (by assumption) (by omega)) ?_
  refine xp_iconst (v := 0) d_M_init_259 (by decide) ?_
  refine xp_istore_n d_M_init_260 (by decide) ?_
  refine xp_loc (lv' := [(0, .ref 68), (1, .int (nI 0))]) ⟨rfl, rfl, trivial⟩ ?_
  exact l_M_init_261 (I := I) (P := s_iP P) rfl rfl hp 6 0 rfl
end partAG
