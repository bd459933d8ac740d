/-! the end of a step: control loops and watched values, alike -/
/-- a node's own rows -/
def KLoc (nd : Nat) (I' I : xI) : Prop := ∀ b, nd ≤ b → b < nd + 10 → I' b = I b
theorem KLoc.up {nd a k : Nat} {v : Int32} {I' I : xI} (h : KLoc nd I' I) (h1 : nd ≤ a) (h2 : a < nd + 10) : KLoc nd (x_up I' a k v) (x_up I a k v) := fun b hb hb2 => by
  unfold x_up
  by_cases hc : b = a
  · rw [if_pos hc, if_pos hc, h a h1 h2]
  · rw [if_neg hc, if_neg hc, h b hb hb2]
theorem KLoc.run {nd : Nat} {I' I : xI} (h : KLoc nd I' I) : KLoc nd (k_run I' nd) (k_run I nd) := by
  have e0 := h nd (by omega) (by omega)
  have e4 := h (nd + 4) (by omega) (by omega)
  have eo : k_off I' (nd + 4) = k_off I (nd + 4) := by
    unfold k_off
    rw [e4]
  have es : KLoc nd (k_sum I' (nd + 4) (I' nd 10)) (k_sum I (nd + 4) (I nd 10)) := by
    unfold k_sum
    rw [e4, e0]
    exact h.up (by omega) (by omega)
  have es4 := es (nd + 4) (by omega) (by omega)
  have ec : k_ctl I' (nd + 4) (I' nd 10) = k_ctl I (nd + 4) (I nd 10) := by
    unfold k_ctl
    rw [es4, e4, e0]
  unfold k_run
  rw [eo, ec]
  by_cases hc : k_off I (nd + 4) = 0
  · rw [if_pos hc, if_pos hc]
    unfold k_fill
    rw [if_neg (by decide), if_neg (by decide)]
    exact (es.up (by omega) (by omega)).up (by omega) (by omega)
  · rw [if_neg hc, if_neg hc]
    exact h
theorem k_ov_loc {nd : Nat} {I' I : xI} (h : KLoc nd I' I) (ob : Int32) : k_ov I' nd ob = k_ov I nd ob := by
  unfold k_ov
  rw [h nd (by omega) (by omega), h (nd + 2) (by omega) (by omega), h (nd + 3) (by omega) (by omega), h (nd + 4) (by omega) (by omega)]
theorem KLoc.fd {nd : Nat} {I' I : xI} (h : KLoc nd I' I) : ∀ k, k ≤ 3 → KLoc nd (k_fd I' nd k) (k_fd I nd k)
  | 0, _ => h
  | k + 1, hk => by
    have ih := h.fd k (by omega)
    show KLoc nd (k_fd1 (k_fd I' nd k) nd k) (k_fd1 (k_fd I nd k) nd k)
    unfold k_fd1
    rw [ih (nd + 7 + k) (by omega) (by omega), k_ov_loc ih]
    exact ih.up (by omega) (by omega)
/-- one node's control alone -/
def k_c1 (I : xI) (nd : Nat) : xI := if I nd 5 = 0 then I else k_run I nd
theorem KLoc.c1 {nd : Nat} {I' I : xI} (h : KLoc nd I' I) : KLoc nd (k_c1 I' nd) (k_c1 I nd) := by
  unfold k_c1
  rw [h nd (by omega) (by omega)]
  by_cases hc : I nd 5 = 0
  · rw [if_pos hc, if_pos hc]
    exact h
  · rw [if_neg hc, if_neg hc]
    exact h.run
theorem KLoc.es1 {nd m : Nat} {I' I : xI} (h : KLoc nd I' I) (hm : m ≤ 3) (em : I nd 12 = nI m) : KLoc nd (k_es1 I' nd) (k_es1 I nd) := by
  have e0 := h nd (by omega) (by omega)
  unfold k_es1
  rw [e0, h.run nd (by omega) (by omega)]
  by_cases hc : I nd 5 = 0
  · rw [if_pos hc, if_pos hc]
    exact h
  · rw [if_neg hc, if_neg hc, k_run_ne (by omega) (by omega) (by omega), em, k_tn_nI (by omega)]
    exact h.run.fd m hm
/-- node after node -/
def k_fo6 (F : xI → Nat → xI) (I : xI) : Nat → xI
  | 0 => I
  | k + 1 => F (k_fo6 F I k) (8 + 10 * k)
theorem k_fo6_at {F : xI → Nat → xI} {I : xI} (hl : ∀ n, n < 6 → ∀ I', KLoc (8 + 10 * n) I' I → KLoc (8 + 10 * n) (F I' (8 + 10 * n)) (F I (8 + 10 * n))) (ho : ∀ n, n < 6 → ∀ I', KLoc (8 + 10 * n) I' I → ∀ a, (a < 8 + 10 * n ∨ 8 + 10 * n + 10 ≤ a) → F I' (8 + 10 * n) a = I' a) : ∀ k, k ≤ 6 → (∀ n, n < k → KLoc (8 + 10 * n) (k_fo6 F I k) (F I (8 + 10 * n))) ∧ ∀ a, (a < 8 ∨ 8 + 10 * k ≤ a) → k_fo6 F I k a = I a
  | 0, _ => ⟨fun n hn => absurd hn (by omega), fun a _ => rfl⟩
  | k + 1, hk => by
    obtain ⟨ih1, ih2⟩ := k_fo6_at hl ho k (by omega)
    have hloc : KLoc (8 + 10 * k) (k_fo6 F I k) I := fun b hb _ => ih2 b (by omega)
    refine ⟨fun n hn => ?_, fun a ha => ?_⟩
    · by_cases hc : n = k
      · subst hc
        exact hl n (by omega) _ hloc
      · exact fun b hb hb2 => (ho k (by omega) _ hloc b (by omega)).trans (ih1 n (by omega) b hb hb2)
    · exact (ho k (by omega) _ hloc a (by omega)).trans (ih2 a (by omega))
theorem k_es_fo (I : xI) : ∀ k, k_es I k = k_fo6 k_es1 I k
  | 0 => rfl
  | k + 1 => by
    show k_es1 (k_es I k) (8 + 10 * k) = k_es1 (k_fo6 k_es1 I k) (8 + 10 * k)
    rw [k_es_fo I k]
theorem k_c1_ne {I : xI} {nd a j : Nat} (h : a ≠ nd + 2) (h2 : a ≠ nd + 3) (h3 : a ≠ nd + 4) : k_c1 I nd a j = I a j := by
  unfold k_c1
  by_cases hc : I nd 5 = 0
  · rw [if_pos hc]
  · rw [if_neg hc, k_run_ne h h2 h3]
theorem k_fd_far {I : xI} {nd : Nat} : ∀ m k, k < m → k_fd I nd m (nd + 7 + k) 3 = k_far (k_ov I nd (I (nd + 7 + k) 1)) (I (nd + 7 + k) 2)
  | 0, _, h => absurd h (by omega)
  | m + 1, k, h => by
    show k_fd1 (k_fd I nd m) nd m (nd + 7 + k) 3 = _
    unfold k_fd1
    by_cases hc : k = m
    · subst hc
      have e : ∀ a, a < nd + 7 ∨ nd + 7 + k ≤ a → k_fd I nd k a = I a := fun a ha => funext fun j => k_fd_ne k ha
      rw [x_up_eq ⟨rfl, rfl⟩, e (nd + 7 + k) (by omega)]
      unfold k_ov
      rw [e nd (by omega), e (nd + 2) (by omega), e (nd + 3) (by omega), e (nd + 4) (by omega)]
    · rw [x_up_ne (by omega)]
      exact k_fd_far m k (by omega)
theorem k_fd_old {I : xI} {nd a j : Nat} (hj : j ≠ 3) : ∀ m, k_fd I nd m a j = I a j
  | 0 => rfl
  | m + 1 => by
    show k_fd1 (k_fd I nd m) nd m a j = _
    unfold k_fd1
    rw [x_up_ne (by omega), k_fd_old hj m]
/-- what the end of the step leaves of a cell -/
theorem k_es_at {I : xI} (hm : k_m12 I) : (∀ a, (a < 8 ∨ 68 ≤ a) → k_es I 6 a = k_fo6 k_c1 I 6 a) ∧ (∀ n, n < 6 → ∀ a j, 8 + 10 * n ≤ a → a < 8 + 10 * n + 10 → (a < 8 + 10 * n + 7 ∨ j ≠ 3) → k_es I 6 a j = k_fo6 k_c1 I 6 a j) ∧ ∀ n m k, n < 6 → I (8 + 10 * n) 12 = nI m → m ≤ 3 → k < m → k_es I 6 (8 + 10 * n + 7 + k) 3 = (if I (8 + 10 * n) 5 = 0 then I (8 + 10 * n + 7 + k) 3 else k_far (k_ov (k_fo6 k_c1 I 6) (8 + 10 * n) (I (8 + 10 * n + 7 + k) 1)) (I (8 + 10 * n + 7 + k) 2)) := by
  rw [k_es_fo]
  obtain ⟨a1, a2⟩ := k_fo6_at (F := k_es1) (I := I) (fun n hn I' h => by
    obtain ⟨m, h1, h2⟩ := hm n hn
    exact h.es1 h1 h2) (fun n hn I' h a ha => by
    obtain ⟨m, h1, h2⟩ := hm n hn
    exact funext fun j => k_es1_ne (m := m) ((congrFun (h _ (by omega) (by omega)) 12).trans h2) h1 (by omega)) 6 (by omega)
  obtain ⟨b1, b2⟩ := k_fo6_at (F := k_c1) (I := I) (fun n hn I' h => h.c1) (fun n hn I' h a ha => funext fun j => k_c1_ne (by omega) (by omega) (by omega)) 6 (by omega)
  refine ⟨fun a ha => by rw [a2 a (by omega), b2 a (by omega)], fun n hn a j h1 h2 h3 => ?_, fun n m k hn em h3 hk => ?_⟩
  · obtain ⟨m, m1, m2⟩ := hm n hn
    rw [a1 n hn a h1 h2, b1 n hn a h1 h2]
    unfold k_es1 k_c1
    by_cases hc : I (8 + 10 * n) 5 = 0
    · rw [if_pos hc, if_pos hc]
    · rw [if_neg hc, if_neg hc]
      rcases h3 with h3 | h3
      · rw [k_fd_ne _ (by omega)]
      · rw [k_fd_old h3]
  · rw [a1 n hn _ (by omega) (by omega), k_ov_loc (b1 n hn)]
    unfold k_es1 k_c1
    by_cases hc : I (8 + 10 * n) 5 = 0
    · rw [if_pos hc, if_pos hc]
    · rw [if_neg hc, if_neg hc, if_neg hc, k_run_ne (by omega) (by omega) (by omega), em, k_tn_nI (by omega), k_fd_far m k hk, k_run_ne (by omega) (by omega) (by omega), k_run_ne (by omega) (by omega) (by omega)]
theorem s_oof_row {J' J : xI} {n : Nat} (h : ∀ a, a ≠ 94 → J' a = J a) : ∀ q l, s_oof J' n q l = s_oof J n q l
  | 0, _ => rfl
  | q + 1, l => by
    unfold s_oof
    rw [h 79 (by omega), h 80 (by omega), s_oof_row h q (l + 1)]
theorem s_val_row {J' J : xI} (h : ∀ a, a ≠ 94 → J' a = J a) (n ob : Int32) : s_val J' n ob = s_val J n ob := by
  unfold s_val
  rw [h 74 (by omega), h 75 (by omega), s_oof_row h]
theorem s_seB_at {J : xI} : ∀ m q, s_seB J m 94 q = (if q < m then (if J 69 (k_tn (J 90 q)) = 0 then J 94 q else s_far (s_val J (J 90 q) (J 92 q)) (J 93 q)) else J 94 q)
  | 0, q => rfl
  | m + 1, q => by
    have e : ∀ a, a ≠ 94 → s_seB J m a = J a := fun a ha => funext fun j => s_seB_ne ha m
    have ih := s_seB_at (J := J) m q
    show s_dq (s_seB J m) m 94 q = _
    unfold s_dq
    rw [e 69 (by omega), e 90 (by omega), e 92 (by omega), e 93 (by omega), s_val_row e]
    by_cases hc : q = m
    · subst hc
      rw [if_neg (by omega)] at ih
      rw [if_pos (show q < q + 1 by omega)]
      by_cases hp : J 69 (k_tn (J 90 q)) = 0
      · rw [if_pos hp, if_pos hp, ih]
      · rw [if_neg hp, if_neg hp, x_up_eq ⟨rfl, rfl⟩]
    · have e2 : (if J 69 (k_tn (J 90 m)) = 0 then s_seB J m else x_up (s_seB J m) 94 m (s_far (s_val J (J 90 m) (J 92 m)) (J 93 m))) 94 q = s_seB J m 94 q := by
        by_cases hp : J 69 (k_tn (J 90 m)) = 0
        · rw [if_pos hp]
        · rw [if_neg hp, x_up_ne (by omega)]
      rw [e2, ih]
      by_cases hq : q < m
      · rw [if_pos hq, if_pos (show q < m + 1 by omega)]
      · rw [if_neg hq, if_neg (show ¬ q < m + 1 by omega)]
section partBU
variable {W : xI} {z : Nat} {I I' J J' : xI} {P : xP} {made S s f h n k c r t : Nat}
/-- all flags at once -/
theorem St.flags (q : St W z I J P made S s f) (hI : ∀ a j, (a < 8 ∨ 68 ≤ a ∨ (8 ≤ a ∧ a < 68 ∧ ((a - 8) % 10 < 7 ∨ j ≠ 3))) → I' a j = I a j) (hJ : ∀ a j, a ≠ 94 → J' a j = J a j) (hf : ∀ n k c, n < 6 → (r_s J S n)[k]? = some c → I' (8 + 10 * n + 7 + k) 3 = J' 94 c) (h01 : ∀ j, J' 94 j = 0 ∨ J' 94 j = 1) : St W z I' J' P made S s f := by
  obtain ⟨⟨h1, e, ⟨t1, t2, h3⟩, h4, h5, h6, hs7⟩, ⟨hf8, hf9⟩, t4, t5, t6, t7⟩ := q
  refine ⟨⟨h1, fun a b a2 b2 hp => ?_, ⟨(hI _ _ (by omega)).trans t1, (hJ _ _ (by omega)).trans t2, r_rg_c h3 (fun j => hJ _ _ (by omega))⟩, fun m hm2 => ?_, fun x hx => ?_, fun x hx => ?_, ?_⟩, ⟨r_fr_c hf8 (fun a j _ _ _ => hI _ _ (by omega)) (fun a j _ _ => hJ _ _ (by omega)), r_sp_d hf9 (fun j _ => ⟨hI _ _ (by omega), hI _ _ (by omega)⟩) (fun j _ _ => hJ _ _ (by omega))⟩, (hI _ _ (by omega)).trans t4, (hJ _ _ (by omega)).trans t5, (hJ _ _ (by omega)).trans t6, t7.1, fun a k g1 g2 => (hI _ _ (by omega)).trans (t7.2 a k g1 g2)⟩
  · have e1 := e _ _ _ _ hp
    unfold pr at hp
    rw [hI _ _ (by omega), hJ _ _ (by omega)]
    exact e1
  · obtain ⟨a1, a2, a3, b1, b2, b3⟩ := h4 m hm2
    have er : r_s J' S m = r_s J S m := r_s_c (fun j _ => hJ _ _ (by omega))
    refine ⟨(hI _ _ (by omega)).trans a1, r_nr_d a2 (fun a _ _ => hJ _ _ (by omega)), r_qu_c a3 (hI _ _ (by omega)) (fun j _ => ⟨hJ _ _ (by omega), hJ _ _ (by omega)⟩), ?_⟩
    unfold r_sb
    rw [er]
    refine ⟨b1, (hI _ _ (by omega)).trans b2, fun k c hk => ?_⟩
    obtain ⟨d1, d2, d3, d4⟩ := b3 k c hk
    have hkl : k < (r_s J S m).length := (List.getElem?_eq_some_iff.mp hk).1
    exact ⟨(hI _ _ (by omega)).trans (d1.trans (hJ _ _ (by omega)).symm), (hI _ _ (by omega)).trans (d2.trans (hJ _ _ (by omega)).symm), (hI _ _ (by omega)).trans (d3.trans (hJ _ _ (by omega)).symm), hf m k c hm2 hk⟩
  · obtain ⟨b, cc⟩ := h5 x hx
    refine ⟨?_, r_rr_c cc (fun a _ _ => hJ _ _ (by omega))⟩
    rw [hI _ _ (by omega), hI _ _ (by omega), hI _ _ (by omega), hI _ _ (by omega), hI _ _ (by omega), hJ _ _ (by omega), hJ _ _ (by omega), hJ _ _ (by omega)]
    exact b
  · rw [hJ _ _ (by omega), hJ _ _ (by omega), hJ _ _ (by omega), hJ _ _ (by omega), hJ _ _ (by omega)]
    exact h6 x hx
  · obtain ⟨g1, g2, g3, g4⟩ := hs7
    refine ⟨(hJ _ _ (by omega)).trans g1, g2, fun x hx => ?_, h01⟩
    rw [hJ _ _ (by omega), hJ _ _ (by omega), hJ _ _ (by omega)]
    exact g3 x hx
/-- one node's control -/
theorem sim_ctl (q : St W z I J P made S s f) (hn : n < 6) : St W z (k_c1 I (8 + 10 * n)) (s_ctl J n) P made S s f := by
  have l0 : I (8 + 10 * n + 4) 0 = J 75 n := q.g (pr_lo (k := 0) hn (by decide))
  have l1 : I (8 + 10 * n + 4) 1 = J 76 n := q.g (pr_lo (k := 1) hn (by decide))
  have l2 : I (8 + 10 * n + 4) 2 = J 77 n := q.g (pr_lo (k := 2) hn (by decide))
  have l3 : I (8 + 10 * n + 4) 3 = J 78 n := q.g (pr_lo (k := 3) hn (by decide))
  have i10 : I (8 + 10 * n) 10 = J 74 n := q.g (pr_nd (k := 10) hn (by decide) (by decide))
  have c := (q.1.2.2.2.1 n hn).2.1
  obtain ⟨-, -, -, c74, c75, c76, c77, c78⟩ := c
  rw [r_out_int, show (10000 : Int32).toInt = 10000 by decide, show (-10000 : Int32).toInt = -10000 by decide] at c74 c75 c78
  rw [r_out_int, show (100 : Int32).toInt = 100 by decide, show (0 : Int32).toInt = 0 by decide] at c76 c77
  have main : St W z (k_fill (k_sum I (8 + 10 * n + 4) (I (8 + 10 * n) 10)) (8 + 10 * n + 2) (8 + 10 * n + 3) 15 (k_ctl I (8 + 10 * n + 4) (I (8 + 10 * n) 10))) (s_c2x J n) P made S s f := by
    have hs : k_held (I (8 + 10 * n + 4) 3 + (I (8 + 10 * n + 4) 0 - I (8 + 10 * n) 10)) 10000 = s_held (J 78 n + s_er J n) 10000 := by
      unfold s_er
      rw [l3, l0, i10, r_held10]
    have q1 : St W z (k_sum I (8 + 10 * n + 4) (I (8 + 10 * n) 10)) (s_c1x J n) P made S s f := by
      unfold k_sum s_c1x
      rw [hs]
      exact q.l3 hn (s_held_out _)
    have a1 : s_c1x J n 76 n = J 76 n := x_up_ne (by omega)
    have a2 : s_c1x J n 77 n = J 77 n := x_up_ne (by omega)
    have a3 : s_c1x J n 78 n = s_held (J 78 n + s_er J n) 10000 := x_up_eq ⟨rfl, rfl⟩
    have hh := s_held_out (J 78 n + s_er J n)
    rw [r_out_int, show (10000 : Int32).toInt = 10000 by decide, show (-10000 : Int32).toInt = -10000 by decide] at hh
    have her : (s_er J n).toInt = (J 75 n).toInt - (J 74 n).toInt := by
      unfold s_er
      rw [Int32.toInt_sub, r_bm (by omega) (by omega)]
    have hv : k_ctl I (8 + 10 * n + 4) (I (8 + 10 * n) 10) = s_held (s_quo (s_c1x J n 76 n * s_er J n + s_c1x J n 77 n * s_c1x J n 78 n) 16) 1000 := by
      unfold k_ctl
      rw [q1.g (pr_lo (k := 1) hn (by decide)), q1.g (pr_lo (k := 2) hn (by decide)), q1.g (pr_lo (k := 3) hn (by decide)), l0, i10, r_held1]
      show s_held (k_fdiv (s_c1x J n 76 n * s_er J n + s_c1x J n 77 n * s_c1x J n 78 n) 16) 1000 = _
      have hb := r_pi (p := s_c1x J n 76 n) (i := s_c1x J n 77 n) (e := s_er J n) (t := s_c1x J n 78 n) (by rw [a1]; exact c76) (by rw [a2]; exact c77) (by rw [her]; omega) (by rw [a3]; exact hh)
      rw [r_quo hb.1 hb.2]
    unfold k_fill s_c2x
    rw [if_neg (by decide), hv, show ((15 : Int32) - 1).toNatClampNeg = 14 by decide]
    exact (q1.out (l := 14) hn (by omega)).fil (l := 14) hn (by omega)
  unfold k_c1 s_ctl k_run k_off
  rw [q.n5 hn, l1, l2]
  by_cases h0 : J 69 n = 0
  · rw [if_pos h0, if_pos h0]
    exact q
  rw [if_neg h0, if_neg h0]
  by_cases h1 : J 76 n = 0
  · rw [if_pos h1, if_pos h1]
    by_cases h2 : J 77 n = 0
    · rw [if_pos h2, if_pos h2, if_neg (by decide)]
      exact q
    · rw [if_neg h2, if_neg h2, if_pos rfl]
      exact main
  · rw [if_neg h1, if_neg h1, if_pos rfl]
    exact main
theorem sim_ctls (q : St W z I J P made S s f) : ∀ n, n ≤ 6 → St W z (k_fo6 k_c1 I n) (s_seA J n) P made S s f
  | 0, _ => q
  | n + 1, hn => sim_ctl (sim_ctls q n (by omega)) (by omega)
theorem St.m12 (q : St W z I J P made S s f) : k_m12 I := fun n hn => ⟨_, q.ln hn, q.g12 hn⟩
theorem sim_set (q : St W z I J P made S s f) : St W z (k_es I 6) (s_set J S) P made S s f := by
  have q1 := sim_ctls q 6 (by omega)
  obtain ⟨b1, b2, b3⟩ := k_es_at q.m12
  have e90 : ∀ a j, (a ≠ 78 ∧ a ≠ 79 ∧ a ≠ 80) → s_seA J 6 a j = J a j := fun a j ha => s_seA_ne ha 6
  refine q1.flags (fun a j ha => ?_) (fun a j ha => s_seB_ne ha S) (fun n k c hn hk => ?_) (fun j => ?_)
  · rcases ha with ha | ha | ⟨ha, ha2, ha3⟩
    · rw [b1 a (by omega)]
    · rw [b1 a (by omega)]
    · exact b2 ((a - 8) / 10) (by omega) a j (by omega) (by omega) (by omega)
  · have hk2 : (r_s J S n)[k]? = some c := by
      rw [r_s_c (J := J) (J' := s_seA J 6) (fun j _ => e90 _ _ (by omega))] at hk
      exact hk
    have hl := q.ln hn
    have hkl : k < (r_s J S n).length := (List.getElem?_eq_some_iff.mp hk2).1
    have hm := r_s_mem hk2
    obtain ⟨d0, d1, d2, d3⟩ := q.sb hn hk2
    show k_es I 6 (8 + 10 * n + 7 + k) 3 = s_seB (s_seA J 6) S 94 c
    rw [b3 n _ k hn (q.g12 hn) hl hkl, s_seB_at, if_pos hm.1, e90 69 _ (by omega), e90 90 _ (by omega), e90 92 _ (by omega), e90 93 _ (by omega), e90 94 _ (by omega), hm.2, k_tn_nI (by omega), q.n5 hn, d1, d2, d3, q1.ov hn, r_far]
  · show s_seB (s_seA J 6) S 94 j = 0 ∨ s_seB (s_seA J 6) S 94 j = 1
    have hz := q.sr.2.2.2 j
    rw [s_seB_at, e90 94 _ (by omega)]
    by_cases hj : j < S
    · rw [if_pos hj]
      by_cases hp : s_seA J 6 69 (k_tn (s_seA J 6 90 j)) = 0
      · rw [if_pos hp]
        exact hz
      · rw [if_neg hp]
        exact s_far_01 _ _
    · rw [if_neg hj]
      exact hz
end partBU
