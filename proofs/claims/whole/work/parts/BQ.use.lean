/-! the use of the token, a step's middle: alike -/
section partBQ
variable {W : xI} {z : Nat} {I J : xI} {P : xP} {made S s f h n k c r t : Nat}
theorem s_due_eq (J : xI) (S h : Nat) : s_dueO J (nI h) S = (r_s J S h).find? (fun c => decide (¬ J 94 c = 0)) := by
  unfold s_dueO r_s
  rw [← srch_filter]
  congr 1
  funext k
  by_cases h1 : J 90 k = nI h <;> by_cases h2 : J 94 k = 0 <;> simp [h1, h2]
theorem s_fir_eq (J : xI) (made h : Nat) : s_firO J (nI h) made = (r_q J made h).head? := by
  unfold s_firO r_q
  rw [srch_range, List.head?_filter, List.range_eq_range']
theorem St.due (q : St W z I J P made S s f) (hh : h < 6) : (k_due I (8 + 10 * h) = none ∧ s_dueO J (nI h) S = none) ∨ ∃ k c, k_due I (8 + 10 * h) = some k ∧ (r_s J S h)[k]? = some c ∧ s_dueO J (nI h) S = some c := by
  have hl := q.ln hh
  rw [s_due_eq]
  unfold k_due
  rw [q.g12 hh, k_tn_nI (by omega)]
  rcases srch_list (fun c => decide (¬ J 94 c = 0)) (fun k => !decide (I (8 + 10 * h + 7 + k) 3 = 0)) (r_s J S h) 0 (fun k c hk => by
    obtain ⟨-, -, -, b3⟩ := q.sb hh hk
    rw [show 0 + k = k by omega]
    show (!decide (I (8 + 10 * h + 7 + k) 3 = 0)) = decide (¬ J 94 c = 0)
    rw [b3]
    by_cases h2 : J 94 c = 0 <;> simp [h2]) with ⟨a, b⟩ | ⟨k, c, a, b, g⟩
  · exact Or.inl ⟨a, b⟩
  · rw [show 0 + k = k by omega] at a
    exact Or.inr ⟨k, c, a, b, g⟩
theorem sim_use (q : St W z I J P made S s 0) (hh : h < 6) (e32 : J 68 32 = nI h) : ∃ S' f, St W z (if k_useV I (8 + 10 * h) = 0 then k_useI I P (8 + 10 * h) else k_after (k_useI I P (8 + 10 * h)) (8 + 10 * h)) (s_use J s h S made) (k_useP I P (8 + 10 * h)) made S' s f := by
  obtain ⟨k, hk, e34⟩ := q.1.2.2.1.2.2.2.2.1
  have go : ¬ k_useV I (8 + 10 * h) = 0 → s_use J s h S made = s_utl J s h → ∃ S' f, St W z (if k_useV I (8 + 10 * h) = 0 then k_useI I P (8 + 10 * h) else k_after (k_useI I P (8 + 10 * h)) (8 + 10 * h)) (s_use J s h S made) (k_useP I P (8 + 10 * h)) made S' s f := fun g1 g2 => by
    rw [if_neg g1, (k_use_go g1).1, (k_use_go g1).2, g2]
    obtain ⟨f, q2⟩ := sim_utl q hh e32
    exact ⟨S, f, q2⟩
  by_cases h2 : k = 2
  · subst h2
    refine go ?_ ?_
    · unfold k_useV
      rw [q.g7, e34, if_pos (by decide)]
      decide
    · unfold s_use
      rw [e34, if_pos (by decide)]
  have a1 : ¬ 2 ≤ I 1 7 := by
    rw [q.g7, e34]
    exact nI_ge (b := 2) (by omega) (by omega)
  have a2 : ¬ J 68 34 = 2 := by
    rw [e34]
    exact fun g => h2 ((nI_eq (b := 2) (by omega) (by omega)).mp g)
  have q1 : St W z (k_us1 I) (s_u1 J) P made S s 0 := by
    unfold k_us1 s_u1
    rw [q.g7, e34, nI_1]
    exact q.s7 (by omega)
  have e1 : s_u1 J 68 32 = nI h := (x_up_ne (by omega)).trans e32
  rcases q.due hh with ⟨d1, d2⟩ | ⟨j, c, d1, d3, d2⟩
  · have hfir := s_fir_eq J made h
    have hle := (q.1.2.2.2.1 h hh).2.2.1
    cases hq : r_q J made h with
    | nil =>
      rw [hq] at hfir
      have i11 : I (8 + 10 * h) 11 = 0 := by rw [hle.2.1, hq]; rfl
      refine go ?_ ?_
      · unfold k_useV
        rw [if_neg a1, d1]
        show ¬ (if I (8 + 10 * h) 11 ≤ 0 then (1 : Int32) else 0) = 0
        rw [i11, if_pos (by decide)]
        decide
      · unfold s_use
        rw [if_neg a2, d2, hfir]
        rfl
    | cons r L =>
      rw [hq] at hfir
      have hlen : (r_q J made h).length = L.length + 1 := by rw [hq]; rfl
      have i11 : ¬ I (8 + 10 * h) 11 ≤ 0 := by
        rw [hle.2.1]
        have := hle.1
        exact nI_nle (by omega) (by omega)
      have p0 : k_q0 P (8 + 10 * h) = 101 + r := by
        unfold k_q0
        rw [hle.2.2 0 r (by rw [hq]; rfl)]
        rfl
      have hq1 : r_q (s_u1 J) made h = r :: L := (r_q_c (J := J) (J' := s_u1 J) (fun j _ => ⟨x_up_ne (by omega), x_up_ne (by omega)⟩)).trans hq
      have hv : k_useV I (8 + 10 * h) = 0 := by
        unfold k_useV
        rw [if_neg a1, d1]
        exact if_neg i11
      have hi : k_useI I P (8 + 10 * h) = k_srI (k_us1 I) (8 + 10 * h) (101 + r) := by
        unfold k_useI
        rw [if_neg a1, d1]
        show (if I (8 + 10 * h) 11 ≤ 0 then k_ut I (8 + 10 * h) else k_srI (k_us1 I) (8 + 10 * h) (k_q0 P (8 + 10 * h))) = _
        rw [if_neg i11, p0]
      have hp : k_useP I P (8 + 10 * h) = k_srP (k_us1 I) P (8 + 10 * h) (101 + r) := by
        unfold k_useP
        rw [if_neg a1, d1]
        show (if I (8 + 10 * h) 11 ≤ 0 then P else k_srP (k_us1 I) P (8 + 10 * h) (k_q0 P (8 + 10 * h))) = _
        rw [if_neg i11, p0]
      have hs : s_use J s h S made = s_ask (s_u1 J) r 0 s S := by
        unfold s_use
        rw [if_neg a2, d2, hfir]
        rfl
      rw [if_pos hv, hi, hp, hs]
      exact sim_ask q1 hh e1 hq1
  · have hv : k_useV I (8 + 10 * h) = 0 := by
      unfold k_useV
      rw [if_neg a1, d1]
    have hi : k_useI I P (8 + 10 * h) = k_sn (k_us1 I) (8 + 10 * h) (8 + 10 * h + 7 + j) := by
      unfold k_useI
      rw [if_neg a1, d1]
    have hp : k_useP I P (8 + 10 * h) = P := by
      unfold k_useP
      rw [if_neg a1, d1]
    have hs : s_use J s h S made = s_tell (s_u1 J) c 0 s := by
      unfold s_use
      rw [if_neg a2, d2]
    rw [if_pos hv, hi, hp, hs]
    obtain ⟨f, q2⟩ := sim_tell q1 hh e1 (k := j) (c := c) (by
      rw [r_s_c (J := J) (J' := s_u1 J) (fun j _ => x_up_ne (by omega))]
      exact d3)
    exact ⟨S, f, q2⟩
theorem sim_ma (q : St W z I J P made S s 0) (hH : 0 ≤ J 68 32 → J 68 32 = nI h ∧ h < 6) : ∃ S' f, St W z (k_maI I P) (s_ma J s h S made) (k_maP I P) made S' s f := by
  unfold k_maI k_maP s_ma
  rw [q.g5, q.g6]
  rcases q.1.2.2.1.2.2.1 with e | ⟨h', hh', e⟩
  · rw [e, if_pos rfl, if_pos rfl, if_neg (by decide)]
    exact ⟨S, 0, sim_lis q⟩
  · have h0 : 0 ≤ J 68 32 := by
      rw [e]
      exact nI_pos' (by omega)
    obtain ⟨e32, hh⟩ := hH h0
    have hm1 : ¬ J 68 32 = -1 := by
      rw [e32]
      exact nI_nm1 (by omega)
    rw [if_neg hm1, if_neg hm1, if_pos h0, e32, k_nd_nI (by omega)]
    obtain ⟨p, hp, e33⟩ := q.1.2.2.1.2.2.2.1
    rcases (show p = 0 ∨ p = 1 ∨ p = 2 ∨ p = 3 by omega) with rfl | rfl | rfl | rfl
    · have n3 : ¬ J 68 33 = 3 := by rw [e33]; decide
      have n0 : J 68 33 = 0 := e33
      rw [if_neg n3, if_pos n0, if_neg n3, if_pos n0, if_pos n0]
      exact sim_use q hh e32
    · have n3 : ¬ J 68 33 = 3 := by rw [e33]; decide
      have n0 : ¬ J 68 33 = 0 := by rw [e33]; decide
      have n1 : J 68 33 = 1 := e33
      rw [if_neg n3, if_neg n0, if_neg n3, if_neg n0, if_neg n0, if_pos n1]
      obtain ⟨f, q2⟩ := sim_after1 q hh e32 n1
      exact ⟨S, f, q2⟩
    · have n3 : ¬ J 68 33 = 3 := by rw [e33]; decide
      have n0 : ¬ J 68 33 = 0 := by rw [e33]; decide
      have n1 : ¬ J 68 33 = 1 := by rw [e33]; decide
      have n2 : J 68 33 = 2 := e33
      rw [if_neg n3, if_neg n0, if_neg n3, if_neg n0, if_neg n0, if_neg n1, if_pos n2]
      obtain ⟨f, q2⟩ := sim_after2 q hh n2
      exact ⟨S, f, q2⟩
    · have n3 : J 68 33 = 3 := e33
      have n0 : ¬ J 68 33 = 0 := by rw [e33]; decide
      have n1 : ¬ J 68 33 = 1 := by rw [e33]; decide
      have n2 : ¬ J 68 33 = 2 := by rw [e33]; decide
      rw [if_pos n3, if_pos n3, if_neg n0, if_neg n1, if_neg n2]
      obtain ⟨f, q2⟩ := sim_sear q hh e32
      exact ⟨S, f, q2⟩
end partBQ
