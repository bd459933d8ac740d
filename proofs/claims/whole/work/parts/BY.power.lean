/-! power: alike -/
theorem getD_range (K : List Nat) : (List.range K.length).map (fun i => K.getD i 0) = K := by
  apply List.ext_getElem?
  intro i
  rw [List.getElem?_map]
  by_cases h : i < K.length
  · rw [List.getElem?_range h]
    simp [List.getD, h]
  · rw [List.getElem?_eq_none (by simpa using h), List.getElem?_eq_none (by simpa using h)]
    rfl
theorem filter_getD (K : List Nat) (p : Nat → Bool) : ((List.range K.length).filter (fun i => p (K.getD i 0))).map (fun i => K.getD i 0) = K.filter p := by
  conv => rhs; rw [← getD_range K]
  rw [List.filter_map]
  rfl
/-- the subscriptions that are kept -/
def s_kp (J : xI) (n : Int32) (k : Nat) : List Nat := (List.range k).filter (fun q => decide (¬ J 90 q = n))
theorem s_kp_succ (J : xI) (n : Int32) (k : Nat) : s_kp J n (k + 1) = s_kp J n k ++ (if J 90 k = n then [] else [k]) := by
  unfold s_kp
  rw [List.range_succ, List.filter_append]
  by_cases hc : J 90 k = n
  · rw [if_pos hc, List.filter_cons_of_neg (by simpa using hc)]
    rfl
  · rw [if_neg hc, List.filter_cons_of_pos (by simpa using hc)]
    rfl
theorem s_kp_lt {J : xI} {n : Int32} {k c : Nat} (h : c ∈ s_kp J n k) : c < k := by
  unfold s_kp at h
  rw [List.mem_filter] at h
  exact List.mem_range.mp h.1
theorem s_cp_at {J : xI} {s k a i : Nat} (h1 : 90 ≤ a) (h2 : a ≤ 94) : s_cp J s k a i = (if i = s then J a k else J a i) := by
  unfold s_cp s_c4 s_c3 s_c2 s_c1
  by_cases hi : i = s
  · rw [if_pos hi]
    rcases (show a = 90 ∨ a = 91 ∨ a = 92 ∨ a = 93 ∨ a = 94 by omega) with rfl | rfl | rfl | rfl | rfl
    · rw [x_up_ne (by omega), x_up_ne (by omega), x_up_ne (by omega), x_up_ne (by omega), x_up_eq ⟨rfl, hi⟩]
    · rw [x_up_ne (by omega), x_up_ne (by omega), x_up_ne (by omega), x_up_eq ⟨rfl, hi⟩, x_up_ne (by omega)]
    · rw [x_up_ne (by omega), x_up_ne (by omega), x_up_eq ⟨rfl, hi⟩, x_up_ne (by omega), x_up_ne (by omega)]
    · rw [x_up_ne (by omega), x_up_eq ⟨rfl, hi⟩, x_up_ne (by omega), x_up_ne (by omega), x_up_ne (by omega)]
    · rw [x_up_eq ⟨rfl, hi⟩, x_up_ne (by omega), x_up_ne (by omega), x_up_ne (by omega), x_up_ne (by omega)]
  · rw [if_neg hi, x_up_ne (by omega), x_up_ne (by omega), x_up_ne (by omega), x_up_ne (by omega), x_up_ne (by omega)]
theorem s_pk_at (J : xI) (n : Int32) : ∀ k, (s_pk J n k).2 = (s_kp J n k).length ∧ ∀ a i, 90 ≤ a → a ≤ 94 → (s_pk J n k).1 a i = (if i < (s_kp J n k).length then J a ((s_kp J n k).getD i 0) else J a i)
  | 0 => ⟨rfl, fun a i _ _ => rfl⟩
  | k + 1 => by
    obtain ⟨ih1, ih2⟩ := s_pk_at J n k
    have hle := s_pk_le J n k
    have hl : (s_kp J n k).length ≤ k := by omega
    have e90 : (s_pk J n k).1 90 k = J 90 k := by
      rw [ih2 90 k (by omega) (by omega), if_neg (by omega)]
    unfold s_pk
    rw [e90, s_kp_succ]
    by_cases hc : J 90 k = n
    · rw [if_pos hc, if_pos hc, List.append_nil]
      exact ⟨ih1, ih2⟩
    · rw [if_neg hc, if_neg hc, List.length_append]
      dsimp only
      refine ⟨by rw [ih1]; rfl, fun a i h1 h2 => ?_⟩
      rw [s_cp_at h1 h2, ih1, ih2 a k h1 h2, ih2 a i h1 h2, if_neg (show ¬ k < (s_kp J n k).length by omega)]
      show _ = if i < (s_kp J n k).length + 1 then _ else _
      by_cases hi : i = (s_kp J n k).length
      · rw [if_pos hi, if_pos (by omega), hi]
        simp [List.getD]
      · rw [if_neg hi]
        by_cases hi2 : i < (s_kp J n k).length
        · rw [if_pos hi2, if_pos (by omega)]
          simp [List.getD, List.getElem?_append_left hi2]
        · rw [if_neg hi2, if_neg (by omega)]
section partBY
variable {W : xI} {z : Nat} {I I' J J' : xI} {P : xP} {made S s f h n k c r t j : Nat}
theorem Rel.st (q : Rel z I J P made S) : ∃ s f, St I z I J P made S s f := by
  obtain ⟨s, hs, es⟩ := q.s43
  have ef : J 68 39 = nI (J 68 39).toBitVec.toNat := by
    apply Int32.toBitVec_inj.mp
    show _ = BitVec.ofNat 32 (J 68 39).toBitVec.toNat
    simp
  exact ⟨s, _, q.co, ⟨q.2.2.2.2.2.1, q.2.2.2.2.2.2⟩, (q.2.1.1.2.2.2.2.2.2.2.2.1).trans ef, ef, es, hs, fun a k _ _ => rfl⟩
theorem St.pack (q : St W z I J P made S s f) (hj : j < 6) : ∃ S', (s_pk J (nI j) S).2 = S' ∧ St W z (x_up I (8 + 10 * j) 12 0) (x_up (s_pk J (nI j) S).1 68 22 (nI S')) P made S' s f := by
  obtain ⟨p1, p2⟩ := s_pk_at J (nI j) S
  have p3 := s_pk_le J (nI j) S
  refine ⟨(s_pk J (nI j) S).2, rfl, ?_⟩
  have h94 := s_pk_94 (n := nI j) q.sr.2.2.2 S
  have hJ : ∀ a k, (a < 90 ∨ 94 < a) → (a ≠ 68 ∨ k ≠ 22) → x_up (s_pk J (nI j) S).1 68 22 (nI (s_pk J (nI j) S).2) a k = J a k := fun a k g1 g2 => by
    rw [x_up_ne (by omega), s_pk_68 g1]
  have hK : ∀ a i, 90 ≤ a → a ≤ 94 → i < (s_pk J (nI j) S).2 → x_up (s_pk J (nI j) S).1 68 22 (nI (s_pk J (nI j) S).2) a i = J a ((s_kp J (nI j) S).getD i 0) := fun a i g1 g2 g3 => by
    rw [x_up_ne (by omega), p2 a i g1 g2, if_pos (by omega)]
  have h94' : ∀ i, x_up (s_pk J (nI j) S).1 68 22 (nI (s_pk J (nI j) S).2) 94 i = 0 ∨ x_up (s_pk J (nI j) S).1 68 22 (nI (s_pk J (nI j) S).2) 94 i = 1 := fun i => by
    rw [x_up_ne (by omega)]
    exact h94 i
  have h22 : x_up (s_pk J (nI j) S).1 68 22 (nI (s_pk J (nI j) S).2) 68 22 = nI (s_pk J (nI j) S).2 := x_up_eq ⟨rfl, rfl⟩
  have hmem : ∀ i, i < (s_pk J (nI j) S).2 → (s_kp J (nI j) S).getD i 0 < S := fun i hi => by
    have hi2 : i < (s_kp J (nI j) S).length := by omega
    have hm : (s_kp J (nI j) S).getD i 0 ∈ s_kp J (nI j) S := by
      rw [List.getD_eq_getElem?_getD, List.getElem?_eq_getElem hi2]
      exact List.getElem_mem hi2
    exact s_kp_lt hm
  generalize x_up (s_pk J (nI j) S).1 68 22 (nI (s_pk J (nI j) S).2) = J' at hJ hK h94' h22 ⊢
  have hlist : ∀ m, m < 6 → (r_s J' (s_pk J (nI j) S).2 m).map (fun i => (s_kp J (nI j) S).getD i 0) = if m = j then [] else r_s J S m := fun m hm => by
    have e1 : r_s J' (s_pk J (nI j) S).2 m = (List.range (s_kp J (nI j) S).length).filter (fun i => (fun c => decide (J 90 c = nI m)) ((s_kp J (nI j) S).getD i 0)) := by
      unfold r_s
      rw [p1]
      apply List.filter_congr
      intro i hi
      have hi2 : i < (s_kp J (nI j) S).length := List.mem_range.mp hi
      rw [hK 90 i (by omega) (by omega) (by omega)]
    rw [e1]
    refine (filter_getD (s_kp J (nI j) S) (fun c => decide (J 90 c = nI m))).trans ?_
    unfold s_kp r_s
    rw [List.filter_filter]
    by_cases hc : m = j
    · rw [if_pos hc, hc]
      apply List.filter_eq_nil_iff.mpr
      intro c _
      by_cases h1 : J 90 c = nI j <;> simp [h1]
    · rw [if_neg hc]
      apply List.filter_congr
      intro c _
      by_cases h1 : J 90 c = nI m
      · have h2 : ¬ J 90 c = nI j := fun g => hc ((nI_eq (by omega) (by omega)).mp (h1.symm.trans g))
        rw [decide_eq_true h1, decide_eq_true h2]
        rfl
      · rw [decide_eq_false h1]
        rfl
  generalize (s_pk J (nI j) S).2 = S' at *
  obtain ⟨⟨h1, e, ⟨t1, t2, h3⟩, h4, h5, h6, hs7⟩, ⟨hf8, hf9⟩, t4, t5, t6, t7⟩ := q
  refine ⟨⟨h1, fun a b a2 b2 hp => ?_, ⟨(x_up_ne (by omega)).trans t1, (hJ _ _ (by omega) (by omega)).trans t2, r_rg_d h3 (fun j _ => hJ _ _ (by omega) (by omega))⟩, fun m hm2 => ?_, fun x hx => ?_, fun x hx => ?_, ?_⟩, ⟨r_fr_c hf8 (fun a j _ _ _ => x_up_ne (by omega)) (fun a j _ _ => hJ _ _ (by omega) (by omega)), r_sp_d hf9 (fun j _ => ⟨x_up_ne (by omega), x_up_ne (by omega)⟩) (fun j _ _ => hJ _ _ (by omega) (by omega))⟩, (x_up_ne (by omega)).trans t4, (hJ _ _ (by omega) (by omega)).trans t5, (hJ _ _ (by omega) (by omega)).trans t6, t7.1, fun a k g1 g2 => (x_up_ne (by omega)).trans (t7.2 a k g1 g2)⟩
  · have e1 := e _ _ _ _ hp
    unfold pr at hp
    rw [x_up_ne (by omega), hJ _ _ (by omega) (by omega)]
    exact e1
  · obtain ⟨a1, a2, a3, b1, b2, b3⟩ := h4 m hm2
    refine ⟨(x_up_ne (by omega)).trans a1, r_nr_d a2 (fun a _ _ => hJ _ _ (by omega) (by omega)), r_qu_c a3 (x_up_ne (by omega)) (fun j _ => ⟨hJ _ _ (by omega) (by omega), hJ _ _ (by omega) (by omega)⟩), ?_⟩
    have hL := hlist m hm2
    by_cases hc : m = j
    · subst hc
      rw [if_pos rfl] at hL
      have hnil : r_s J' S' m = [] := List.map_eq_nil_iff.mp hL
      unfold r_sb
      rw [hnil]
      exact ⟨by simp, x_up_eq ⟨rfl, rfl⟩, fun k c hk => absurd hk (by simp)⟩
    · rw [if_neg hc] at hL
      have hlen : (r_s J' S' m).length = (r_s J S m).length := by rw [← hL, List.length_map]
      unfold r_sb
      rw [hlen]
      refine ⟨b1, (x_up_ne (by omega)).trans b2, fun k c hk => ?_⟩
      have hcm := r_s_mem hk
      have hk2 : (r_s J S m)[k]? = some ((s_kp J (nI j) S).getD c 0) := by rw [← hL, List.getElem?_map, hk]; rfl
      rw [x_up_ne (by omega), x_up_ne (by omega), x_up_ne (by omega), x_up_ne (by omega), hK 91 c (by omega) (by omega) hcm.1, hK 92 c (by omega) (by omega) hcm.1, hK 93 c (by omega) (by omega) hcm.1, hK 94 c (by omega) (by omega) hcm.1]
      exact b3 k _ hk2
  · obtain ⟨b, cc⟩ := h5 x hx
    refine ⟨?_, r_rr_c cc (fun a _ _ => hJ _ _ (by omega) (by omega))⟩
    rw [x_up_ne (by omega), x_up_ne (by omega), x_up_ne (by omega), x_up_ne (by omega), x_up_ne (by omega), hJ _ _ (by omega) (by omega), hJ _ _ (by omega) (by omega), hJ _ _ (by omega) (by omega)]
    exact b
  · rw [hJ _ _ (by omega) (by omega), hJ _ _ (by omega) (by omega), hJ _ _ (by omega) (by omega), hJ _ _ (by omega) (by omega), hJ _ _ (by omega) (by omega)]
    exact h6 x hx
  · obtain ⟨g1, g2, g3, g4⟩ := hs7
    refine ⟨h22, by omega, fun x hx => ?_, h94'⟩
    rw [hK 90 x (by omega) (by omega) hx, hK 91 x (by omega) (by omega) hx, hK 92 x (by omega) (by omega) hx]
    exact g3 _ (hmem x hx)
theorem sim_power (q : Rel z I J P made S) (m on : Int32) (hon : on = 0 ∨ on = 1) : k_pwV I m on = s_pwV J m on ∧ ∃ S', Rel z (k_pwI I m on) (s_pwJ J m on S) P made S' ∧ ∀ a k, 68 ≤ a → a ≤ 100 → k_pwI I m on a k = I a k := by
  unfold k_pwV s_pwV k_pwI s_pwJ
  rw [r_isN]
  by_cases hN : s_isN m = 0
  · simp only [if_pos hN]
    exact ⟨trivial, S, q, fun _ _ _ _ => trivial⟩
  obtain ⟨j, hj5, rfl⟩ := s_isN_ix hN
  have hj : j < 6 := by omega
  simp only [if_neg hN]
  obtain ⟨s, f, g⟩ := q.st
  rw [k_nd_nI hj5, k_tn_nI (by omega), g.n5 hj]
  by_cases h1 : J 69 j = on
  · simp only [if_pos h1]
    exact ⟨trivial, S, q, fun _ _ _ _ => trivial⟩
  simp only [if_neg h1]
  refine ⟨trivial, ?_⟩
  by_cases h0 : on = 0
  · have g1 := g.pw (v := 0) hj (Or.inl rfl)
    rw [if_pos h0, if_pos h0]
    unfold k_lose
    rw [g1.g5]
    by_cases h2 : x_up J 69 j 0 68 32 = nI j
    · rw [if_pos h2, if_pos h2]
      have g2 := (g1.ho (v := -1) (Or.inl rfl)).s9 (v := 0)
      exact ⟨S, g2.rel, g2.2.2.2.2.2.2⟩
    · rw [if_neg h2, if_neg h2]
      exact ⟨S, g1.rel, g1.2.2.2.2.2.2⟩
  · rw [if_neg h0, if_neg h0]
    have g1 := g.pw (v := 1) hj (Or.inr rfl)
    have g2 := g1.nx (x := j) hj hj
    have g3 := g2.pn (x := j) hj hj
    have g5 := (g3.f8 (v := 0) hj).l3 (v := 0) hj (by decide)
    obtain ⟨S', e, g6⟩ := g5.pack hj
    refine ⟨S', ?_⟩
    unfold k_gp k_fo
    rw [g1.id hj, g2.id hj, e]
    exact ⟨g6.rel, g6.2.2.2.2.2.2⟩
end partBY
