/-! new cells, in short; a request -/
theorem x_at_mono {ci z z' a : Nat} (h : x_at ci z a) (hz : z ≤ z') : x_at ci z' a := ⟨h.1, h.2.1, Nat.lt_of_lt_of_le h.2.2 hz⟩
theorem x_ar_mono {kd n z z' a : Nat} (h : x_ar kd n z a) (hz : z ≤ z') : x_ar kd n z' a := ⟨h.1, h.2.1, Nat.lt_of_lt_of_le h.2.2 hz⟩
theorem x_node_mono {z z' : Nat} {P : xP} {nd : Nat} (h : x_node z P nd) (hz : z ≤ z') : x_node z' P nd := by
  obtain ⟨⟨a1, a2, a3, a4, a5, a6, a7⟩, b, c, d⟩ := h
  exact ⟨⟨x_at_mono a1 hz, x_at_mono a2 hz, x_ar_mono a3 hz, x_ar_mono a4 hz, x_at_mono a5 hz, x_ar_mono a6 hz, x_ar_mono a7 hz⟩, fun k hk => x_at_mono (b k hk) hz, c, d⟩
theorem x_bus_row {z z' : Nat} {P P' : xP} (hb : x_bus z P) (hz : z ≤ z') (hr : ∀ a, a < 68 → a ≠ 3 → (∀ n, n < 6 → a ≠ 8 + 10 * n + 5) → P' a = P a) : x_bus z' P' := by
  obtain ⟨⟨a1, a2, a3, a4, a5, a6, a7⟩, b, c, d⟩ := hb
  refine ⟨⟨x_at_mono a1 hz, x_ar_mono a2 hz, x_ar_mono a3 hz, x_at_mono a4 hz, x_ar_mono a5 hz, x_at_mono a6 hz, x_ar_mono a7 hz⟩, ?_, fun n hn => ?_, fun n hn => ?_⟩
  · rw [hr 1 (by omega) (by omega) (by omega), hr 4 (by omega) (by omega) (by omega), hr 6 (by omega) (by omega) (by omega)]
    exact b
  · rw [hr 2 (by omega) (by omega) (by omega)]
    exact c n hn
  · exact x_node_row (x_node_mono (d n hn) hz) (hr _ (by omega) (by omega) (by omega)) (hr _ (by omega) (by omega) (by omega)) (hr _ (by omega) (by omega) (by omega))
theorem xTY_req {z : Nat} (h : 101 ≤ z) : (xTY z).1 = 2 := by
  unfold xTY
  rw [if_neg (by omega), if_neg (by omega), if_neg (by omega)]
def x_nw (own : String) (idx ci : Nat) : Prop := ∃ (C : String) (T : u_T), vwCl[ci]? = some (C, T, xNF ci) ∧ (∀ w ∈ u_ws C T (xNF ci), w ∈ xGW) ∧ (∃ ty : Nat → FieldType, (∀ j, j < xNF ci → parseFieldDescriptor (T j).2.2.1 = some (ty j)) ∧ ∀ j, j < xNF ci → defaultValue (ty j) = if xRS ci j = true then .null else .int 0) ∧
  Cond.classLink own idx C ∈ xGW ∧ Cond.instantiable C (xNF ci) ∈ xGW ∧ Cond.initialized C ∈ xGW ∧ ci < 100
section xnew
variable {G : xG} {M : xM} {pc : Nat} {lv : List (Nat × Value)} {st : List Value} {z : Nat} {I : xI} {P : xP} {bc bs idx : Nat} {post : Option Value → xH → Prop}
theorem xq_new {ci : Nat} (hd : decode M.2.1 pc = .ok (.new idx, 3)) (hn : x_nw M.1.cls idx ci) (ht : (xTY z).1 = ci) (h1 : 1 ≤ z) (kk : xp G M (pc + 3) lv (.ref z :: st) (z + 1, x_z I z, x_n P z) bc bs post) : xp G M pc lv st (z, I, P) (bc + 1) (bs + xNF ci) post := by
  obtain ⟨C, T, a1, a2, ⟨ty, a3, a4⟩, a5, a6, a7, a8⟩ := hn
  exact xp_new hd a1 a2 ty a3 a4 a5 a6 a7 ht a8 h1 kk
theorem xq_newI {N : Nat} {n : Int32} (hd : decode M.2.1 pc = .ok (.newarray .int, 2)) (h0 : ¬ n < 0) (hN : n.toNatClampNeg = N) (hN2 : N ≤ 1000) (hT : xTY z = (100, N)) (h1 : 1 ≤ z) (kk : xp G M (pc + 2) lv (.ref z :: st) (z + 1, x_z I z, P) bc bs post) : xp G M pc lv (.int n :: st) (z, I, P) (bc + 1) (bs + N) post :=
  xp_newarray hd rfl (Or.inl ⟨rfl, rfl, rfl⟩) ac_int h0 hN hN2 hT h1 kk
theorem xq_newZ {N : Nat} {n : Int32} (hd : decode M.2.1 pc = .ok (.newarray .boolean, 2)) (h0 : ¬ n < 0) (hN : n.toNatClampNeg = N) (hN2 : N ≤ 1000) (hT : xTY z = (101, N)) (h1 : 1 ≤ z) (kk : xp G M (pc + 2) lv (.ref z :: st) (z + 1, x_z I z, P) bc bs post) : xp G M pc lv (.int n :: st) (z, I, P) (bc + 1) (bs + N) post :=
  xp_newarray hd rfl (Or.inr ⟨rfl, rfl, rfl⟩) ac_boolean h0 hN hN2 hT h1 kk
theorem xq_newA {kd N : Nat} {n : Int32} (hd : decode M.2.1 pc = .ok (.anewarray idx, 3)) (hk : 102 ≤ kd ∧ kd < 105) (hcl : Cond.classLink M.1.cls idx (xAC kd) ∈ xGW) (hA : xAC kd ∈ xAO) (h0 : ¬ n < 0) (hN : n.toNatClampNeg = N) (hN2 : N ≤ 1000) (hT : xTY z = (kd, N)) (h1 : 1 ≤ z) (kk : xp G M (pc + 3) lv (.ref z :: st) (z + 1, I, x_n P z) bc bs post) : xp G M pc lv (.int n :: st) (z, I, P) (bc + 1) (bs + N) post :=
  xp_anewarray hd hk.1 hk.2 hcl hA h0 hN hN2 hT h1 kk
end xnew
theorem n_W_7 : x_nw "TokenBusLaw" 7 0 := ⟨"TokenBus", xT_B, rfl, xw_B, ⟨xy_B, xyok_B, by decide +kernel⟩, cl_W_7, it_B, in_B, by decide⟩
theorem n_B_9 : x_nw "TokenBus" 9 6 := ⟨"TokenBus$Node", xT_N, rfl, xw_N, ⟨xy_N, xyok_N, by decide +kernel⟩, cl_B_9, it_N, in_N, by decide⟩
theorem n_B_15 : x_nw "TokenBus" 15 2 := ⟨"TokenBus$Request", xT_R, rfl, xw_R, ⟨xy_R, xyok_R, by decide +kernel⟩, cl_B_15, it_R, in_R, by decide⟩
theorem n_B_21 : x_nw "TokenBus" 21 1 := ⟨"TokenBus$Frame", xT_F, rfl, xw_F, ⟨xy_F, xyok_F, by decide +kernel⟩, cl_B_21, it_F, in_F, by decide⟩
theorem n_N_9 : x_nw "TokenBus$Node" 9 4 := ⟨"TokenBus$Output", xT_O, rfl, xw_O, ⟨xy_O, xyok_O, by decide +kernel⟩, cl_N_9, it_O, in_O, by decide⟩
theorem n_N_18 : x_nw "TokenBus$Node" 18 5 := ⟨"TokenBus$Loop", xT_L, rfl, xw_L, ⟨xy_L, xyok_L, by decide +kernel⟩, cl_N_18, it_L, in_L, by decide⟩
theorem n_N_25 : x_nw "TokenBus$Node" 25 2 := ⟨"TokenBus$Request", xT_R, rfl, xw_R, ⟨xy_R, xyok_R, by decide +kernel⟩, cl_N_25, it_R, in_R, by decide⟩
theorem n_N_31 : x_nw "TokenBus$Node" 31 3 := ⟨"TokenBus$Subscription", xT_S, rfl, xw_S, ⟨xy_S, xyok_S, by decide +kernel⟩, cl_N_31, it_S, in_S, by decide⟩
theorem n_W_10 : x_nw "TokenBusLaw" 10 7 := ⟨"TokenBusModel", xT_M, rfl, xw_M, ⟨xy_M, xyok_M, by decide +kernel⟩, cl_W_10, it_M, in_M, by decide⟩
def k_ri (I : xI) (r : Nat) (id tg w nu : Int32) : xI := x_up (x_up (x_up (x_up (x_up (x_up (x_up I r 6 0) r 0 id) r 1 tg) r 2 (w - w / 8 * 8)) r 3 (w / 8 - w / 8 / 8 * 8)) r 4 (w / 64)) r 5 nu
abbrev k_rq1 (z : Nat) (I : xI) (t w v : Int32) : xI := x_up (k_ri (x_z I z) z (I 1 4) t w v) 1 4 (I 1 4 + 1)
def k_rqV (I : xI) (n t w : Int32) : Int32 := if k_within n 0 5 = 0 then -1 else if k_within t 0 5 = 0 then -1 else if n = t then -1 else if k_within w 0 2047 = 0 then -1 else if 4 ≤ I (k_nd n) 11 then -2 else if I 1 4 < 60 then I 1 4 else -2
def k_rqZ (z : Nat) (I : xI) (n t w : Int32) : Nat := if k_within n 0 5 = 0 then z else if k_within t 0 5 = 0 then z else if n = t then z else if k_within w 0 2047 = 0 then z else if 4 ≤ I (k_nd n) 11 then z else if I 1 4 < 60 then z + 1 else z
def k_rqI (z : Nat) (I : xI) (n t w v : Int32) : xI := if k_within n 0 5 = 0 then I else if k_within t 0 5 = 0 then I else if n = t then I else if k_within w 0 2047 = 0 then I else if 4 ≤ I (k_nd n) 11 then I else if I 1 4 < 60 then x_up (k_rq1 z I t w v) (k_nd n) 11 (k_rq1 z I t w v (k_nd n) 11 + 1) else I
def k_rqP (z : Nat) (I : xI) (P : xP) (n t w : Int32) : xP := if k_within n 0 5 = 0 then P else if k_within t 0 5 = 0 then P else if n = t then P else if k_within w 0 2047 = 0 then P else if 4 ≤ I (k_nd n) 11 then P else if I 1 4 < 60 then x_upP (x_upP (x_n P z) 3 (k_tn (I 1 4)) (some z)) (k_nd n + 5) (k_tn (I (k_nd n) 11)) (some z) else P
theorem k_ri_ne {I : xI} {r a j : Nat} {id tg w nu : Int32} (h : a ≠ r) : k_ri I r id tg w nu a j = I a j := by
  unfold k_ri
  repeat rw [x_up_ne (by omega)]
theorem k_rq1_ne {z : Nat} {I : xI} {t w v : Int32} {a j : Nat} (h : a ≠ z) (h2 : a ≠ 1 ∨ j ≠ 4) : k_rq1 z I t w v a j = I a j :=
  (x_up_ne (by omega)).trans ((k_ri_ne h).trans (x_z_ne h))
section part96
variable {G : xG} {z : Nat} {I : Nat → Nat → Int32} {P : Nat → Nat → Option Nat} {post : Option Value → xH → Prop}
set_option maxRecDepth 100000 in
set_option maxHeartbeats 1000000 in
theorem c_R_init {r : Nat} {id tg w nu : Int32} (hr : x_at 2 z r) (hp : post none (z, k_ri I r id tg w nu, P)) : xp G M_R_init 0 [(0, .ref r), (1, .int id), (2, .int tg), (3, .int w), (4, .int nu)] [] (z, I, P) 0 0 post := by
  refine xp_aload_n d_R_init_0 rfl ?_
  refine xp_objInit d_R_init_1 g_R_init_3 im_objInit co_objInit ⟨Nat.le_of_ble_eq_true rfl, Nat.le_of_ble_eq_true rfl⟩ ?_
  refine xp_aload_n d_R_init_4 rfl ?_
  refine xp_iconst (v := 0) d_R_init_5 (by decide) ?_
  refine xq_putI d_R_init_6 f_R_9 (by assumption) ?_
  refine xp_aload_n d_R_init_9 rfl ?_
  refine xp_iload_n d_R_init_10 rfl ?_
  refine xq_putIF d_R_init_11 f_R_15 rfl (by assumption) ?_
  refine xp_aload_n d_R_init_14 rfl ?_
  refine xp_iload_n d_R_init_15 rfl ?_
  refine xq_putIF d_R_init_16 f_R_18 rfl (by assumption) ?_
  refine xp_aload_n d_R_init_19 rfl ?_
  refine xp_iload_n d_R_init_20 rfl ?_
  refine xp_bipush (v := 8) d_R_init_21 (by decide) ?_
  refine xp_irem d_R_init_23 (by decide) ?_
  refine xq_putIF d_R_init_24 f_R_21 rfl (by assumption) ?_
  refine xp_aload_n d_R_init_27 rfl ?_
  refine xp_iload_n d_R_init_28 rfl ?_
  refine xp_bipush (v := 8) d_R_init_29 (by decide) ?_
  refine xp_idiv d_R_init_31 (by decide) ?_
  refine xp_bipush (v := 8) d_R_init_32 (by decide) ?_
  refine xp_irem d_R_init_34 (by decide) ?_
  refine xq_putIF d_R_init_35 f_R_24 rfl (by assumption) ?_
  refine xp_aload_n d_R_init_38 rfl ?_
  refine xp_iload_n d_R_init_39 rfl ?_
  refine xp_bipush (v := 64) d_R_init_40 (by decide) ?_
  refine xp_idiv d_R_init_42 (by decide) ?_
  refine xq_putIF d_R_init_43 f_R_27 rfl (by assumption) ?_
  refine xp_aload_n d_R_init_46 rfl ?_
  refine xp_iload d_R_init_47 rfl ?_
  refine xq_putIF d_R_init_49 f_R_30 rfl (by assumption) ?_
  refine xp_return_ d_R_init_52 rfl ?_
  exact hp
set_option maxRecDepth 100000 in
set_option maxHeartbeats 1000000 in
theorem c_B_request (hb : x_bus z P) (hz : 101 ≤ z) {n t w v : Int32} {made : Nat} (hm6 : made ≤ 60) (em : I 1 4 = nI made) (hQ : ∀ j, j < 6 → ∃ q, q ≤ 4 ∧ I (8 + 10 * j) 11 = nI q) (hp : post (some (.int (k_rqV I n t w))) (k_rqZ z I n t w, k_rqI z I n t w v, k_rqP z I P n t w)) : xp G M_B_request 0 [(0, .ref 1), (1, .int n), (2, .int t), (3, .int w), (4, .int v)] [] (z, I, P) 1 11 post := by
  obtain ⟨⟨tB, tns, trs, tF, tFb, tG, tGb⟩, ⟨b0, b1, b2, b3, b4, b5⟩, hns, hnd⟩ := id hb
  have emt : k_tn (I 1 4) = made := by rw [em]; exact k_tn_nI (by omega)
  unfold k_rqV k_rqZ k_rqI k_rqP at hp
  refine xp_iload_n d_B_request_0 rfl ?_
  refine xq_S1r d_B_request_1 g_B_request_38 rfl rfl ?_
  refine c_B_isNode ?_
  refine ⟨_, rfl, ?_⟩
  refine xp_if_eq (tgt := 30) d_B_request_4 (by decide) (fun c4 => ?_) (fun c4 => ?_)
  · skip
    refine xp_iconst (v := -1) d_B_request_30 (by decide) ?_
    refine xp_ireturn d_B_request_31 rfl rfl ?_
    simp only [if_pos c4] at hp
    exact hp
  · skip
    refine xp_iload_n d_B_request_7 rfl ?_
    refine xq_S1r d_B_request_8 g_B_request_38 rfl rfl ?_
    refine c_B_isNode ?_
    refine ⟨_, rfl, ?_⟩
    refine xp_if_eq (tgt := 30) d_B_request_11 (by decide) (fun c11 => ?_) (fun c11 => ?_)
    · skip
      refine xp_iconst (v := -1) d_B_request_30 (by decide) ?_
      refine xp_ireturn d_B_request_31 rfl rfl ?_
      simp only [if_neg c4, if_pos c11] at hp
      exact hp
    · skip
      refine xp_iload_n d_B_request_14 rfl ?_
      refine xp_iload_n d_B_request_15 rfl ?_
      refine xp_icmp_eq (tgt := 30) d_B_request_16 (by decide) (fun c16 => ?_) (fun c16 => ?_)
      · skip
        refine xp_iconst (v := -1) d_B_request_30 (by decide) ?_
        refine xp_ireturn d_B_request_31 rfl rfl ?_
        simp only [if_neg c4, if_neg c11, if_pos c16] at hp
        exact hp
      · skip
        refine xp_iload_n d_B_request_19 rfl ?_
        refine xp_iconst (v := 0) d_B_request_20 (by decide) ?_
        refine xp_sipush (v := 2047) d_B_request_21 (by decide) ?_
        refine xq_S3r d_B_request_24 g_B_request_52 rfl rfl ?_
        refine c_B_isWithin ?_
        refine ⟨_, rfl, ?_⟩
        refine xp_if_ne (tgt := 32) d_B_request_27 (by decide) (fun c27 => ?_) (fun c27 => ?_)
        · skip
          obtain ⟨j, hj, rfl⟩ := k_node_ix c4
          have hk : k_nd (nI j) = 8 + 10 * j := k_nd_nI hj
          simp only [hk] at hp
          have tN := (hnd j (by omega)).1.1
          obtain ⟨q, hq4, eq⟩ := hQ j (by omega)
          have eqt : k_tn (I (8 + 10 * j) 11) = q := by rw [eq]; exact k_tn_nI (by omega)
          refine xp_aload_n d_B_request_32 rfl ?_
          refine xq_getR d_B_request_33 fg_B_11 (by assumption) (by assumption) ?_
          refine xp_iload_n d_B_request_36 rfl ?_
          refine xq_aaload d_B_request_37 (by assumption) (by decide) rfl (by omega) (by decide) (hns j (by omega)) ?_
          refine xq_getI d_B_request_38 fg_B_69 (by assumption) ?_
          refine xp_iconst (v := 4) d_B_request_41 (by decide) ?_
          refine xp_icmp_ge (tgt := 54) d_B_request_42 (by decide) (fun c42 => ?_) (fun c42 => ?_)
          · skip
            refine xp_bipush (v := -2) d_B_request_54 (by decide) ?_
            refine xp_ireturn d_B_request_56 rfl rfl ?_
            simp only [if_neg c4, if_neg c11, if_neg c16, if_neg c27, if_pos c42] at hp
            exact hp
          · skip
            refine xp_aload_n d_B_request_45 rfl ?_
            refine xq_getI d_B_request_46 fg_B_72 (by assumption) ?_
            refine xp_bipush (v := 60) d_B_request_49 (by decide) ?_
            refine xp_icmp_lt (tgt := 57) d_B_request_51 (by decide) (fun c51 => ?_) (fun c51 => ?_)
            · skip
              have hq3 : q < 4 := Nat.lt_of_not_le (fun e => c42 (by rw [eq]; exact nI_le (a := 4) e (by omega)))
              have hm3 : made < 60 := (nI_ltI (a := made) (b := 60) (by omega) (by decide)).mp (by have q5 := c51; rw [em] at q5; exact q5)
              refine xp_aload_n d_B_request_57 rfl ?_
              refine xq_getI d_B_request_58 fg_B_72 (by assumption) ?_
              refine xp_istore d_B_request_61 (by decide) ?_
              refine xp_aload_n d_B_request_63 rfl ?_
              refine xq_getR d_B_request_64 fg_B_17 (by assumption) (by assumption) ?_
              refine xp_iload d_B_request_67 rfl ?_
              refine xq_new (bc := 0) (bs := 0) d_B_request_69 n_B_15 (xTY_req hz) (by omega) ?_
              have hr1 : x_at 2 (z + 1) z := ⟨xTY_req hz, by omega, by omega⟩
              have tB1 := x_at_mono tB (Nat.le_succ z)
              have trs1 := x_ar_mono trs (Nat.le_succ z)
              have tns1 := x_ar_mono tns (Nat.le_succ z)
              refine xp_dup d_B_request_72 rfl ?_
              refine xp_iload d_B_request_73 rfl ?_
              refine xp_iload_n d_B_request_75 rfl ?_
              refine xp_iload_n d_B_request_76 rfl ?_
              refine xp_iload d_B_request_77 rfl ?_
              refine xq_I4v d_B_request_79 g_B_request_75 rfl rfl ?_
              refine c_R_init hr1 ?_
              refine ⟨rfl, ?_⟩
              refine xq_aastore d_B_request_82 (by assumption) (by decide) em (by omega) (by decide) hr1 (by decide) rfl ?_
              have hP1 : ∀ a, a ≠ z → a ≠ 3 → x_upP (x_n P z) 3 made (some z) a = P a := fun a g1 g2 => by
                unfold x_upP
                rw [if_neg g2, x_n_row g1]
              have hb3 : x_bus (z + 1) (x_upP (x_n P z) 3 made (some z)) := x_bus_row hb (Nat.le_succ z) (fun a g1 g2 _ => hP1 a (by omega) g2)
              have d0 : x_upP (x_n P z) 3 made (some z) 1 0 = some 2 := by rw [hP1 1 (by omega) (by omega)]; exact b0
              have d1 : x_upP (x_n P z) 3 made (some z) 1 1 = some 3 := by rw [hP1 1 (by omega) (by omega)]; exact b1
              have d2 : x_upP (x_n P z) 3 made (some z) 2 j = some (8 + 10 * j) := by rw [hP1 2 (by omega) (by omega)]; exact hns j (by omega)
              have d3 : x_upP (x_n P z) 3 made (some z) 3 made = some z := x_upP_eq ⟨rfl, rfl⟩
              have tN1 := (hb3.2.2.2 j (by omega)).1.1
              refine xp_aload_n d_B_request_83 rfl ?_
              refine xp_iload d_B_request_84 rfl ?_
              refine xp_iconst (v := 1) d_B_request_86 (by decide) ?_
              refine xp_iadd d_B_request_87 ?_
              refine xq_putI d_B_request_88 f_B_72 (by assumption) ?_
              refine xp_aload_n d_B_request_91 rfl ?_
              refine xq_getR d_B_request_92 fg_B_11 (by assumption) (by assumption) ?_
              refine xp_iload_n d_B_request_95 rfl ?_
              refine xq_aaload d_B_request_96 (by assumption) (by decide) rfl (by omega) (by decide) d2 ?_
              refine xp_aload_n d_B_request_97 rfl ?_
              refine xq_getR d_B_request_98 fg_B_17 (by assumption) (by assumption) ?_
              refine xp_iload d_B_request_101 rfl ?_
              refine xq_aaload d_B_request_103 (by assumption) (by decide) em (by omega) (by decide) d3 ?_
              refine xq_V1v d_B_request_104 g_B_request_78 (by assumption) rfl rfl ?_
              refine c_N_enqueue (hb3.2.2.2 j (by omega)) hr1 (by rw [x_up_ne (by omega), k_ri_ne (by omega), x_z_ne (by omega)]; exact eq) hq3 ?_
              refine ⟨rfl, ?_⟩
              refine xp_iload d_B_request_107 rfl ?_
              refine xp_ireturn d_B_request_109 rfl rfl ?_
              simp only [if_neg c4, if_neg c11, if_neg c16, if_neg c27, if_neg c42, if_pos c51, emt, eqt] at hp
              exact hp
            · skip
              refine xp_bipush (v := -2) d_B_request_54 (by decide) ?_
              refine xp_ireturn d_B_request_56 rfl rfl ?_
              simp only [if_neg c4, if_neg c11, if_neg c16, if_neg c27, if_neg c42, if_neg c51] at hp
              exact hp
        · skip
          refine xp_iconst (v := -1) d_B_request_30 (by decide) ?_
          refine xp_ireturn d_B_request_31 rfl rfl ?_
          simp only [if_neg c4, if_neg c11, if_neg c16, if_pos c27] at hp
          exact hp
end part96
