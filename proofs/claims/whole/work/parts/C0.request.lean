/-! a request made: alike -/
section partC0
variable {z : Nat} {I I' J J' : xI} {P P' : xP} {made S s f h n k c r t j : Nat}
theorem r_q_succ (J : xI) (made n : Nat) : r_q J (made + 1) n = r_q J made n ++ (if J 81 made = nI n ∧ J 85 made = 0 then [made] else []) := by
  unfold r_q
  rw [List.range_succ, List.filter_append]
  by_cases hc : J 81 made = nI n ∧ J 85 made = 0
  · rw [if_pos hc, List.filter_cons_of_pos (by simpa using hc)]
    rfl
  · rw [if_neg hc, List.filter_cons_of_neg (by simpa using hc)]
    rfl
theorem Rel.newreq {w v : Int32} (q : Rel z I J P made S) (hm : made < 60) (hj : j < 6) (ht : t < 6) (hl : (r_q J made j).length < 4) (hw : s_out w 0 2047 = 0)
    (hI : ∀ a k, a ≠ z → (a ≠ 1 ∨ k ≠ 4) → (a ≠ 8 + 10 * j ∨ k ≠ 11) → I' a k = I a k) (i4 : I' 1 4 = nI (made + 1)) (i11 : I' (8 + 10 * j) 11 = nI ((r_q J made j).length + 1))
    (z0 : I' z 0 = nI made) (z1 : I' z 1 = nI t) (z2 : I' z 2 = s_sv w) (z3 : I' z 3 = s_ob w) (z4 : I' z 4 = s_lv w) (z5 : I' z 5 = v) (z6 : I' z 6 = 0) (z7 : I' z 7 = 0) (z8 : I' z 8 = 0) (z10 : I' z 10 = 0)
    (hP : ∀ a k, a ≠ z → (a ≠ 3 ∨ k ≠ made) → (a ≠ 8 + 10 * j + 5 ∨ k ≠ (r_q J made j).length) → P' a k = P a k) (p3 : P' 3 made = some z) (p5 : P' (8 + 10 * j + 5) (r_q J made j).length = some z)
    (hJ : ∀ a k, (a < 81 ∨ 84 < a ∨ k ≠ made) → (a ≠ 68 ∨ k ≠ 12) → J' a k = J a k) (j81 : J' 81 made = nI j) (j82 : J' 82 made = nI t) (j83 : J' 83 made = w) (j84 : J' 84 made = v) (j12 : J' 68 12 = nI (made + 1)) : Rel (z + 1) I' J' P' (made + 1) S := by
  have h11 := q.2.1.1.2.2.2.2.2.2.2.2.1
  have h8 := q.2.2.2.2.2.1
  have h9 := q.2.2.2.2.2.2
  obtain ⟨⟨hz, hm6, hb, hmd⟩, e, ⟨t1, t2, h3⟩, h4, h5, h6, h7⟩ := q.co
  subst hz
  obtain ⟨r1, r2, r3, r4, r5⟩ := h6 made (by omega)
  have j85 : J' 85 made = 0 := (hJ _ _ (by omega) (by omega)).trans r1
  have hq : ∀ m, m < 6 → r_q J' (made + 1) m = r_q J made m ++ (if m = j then [made] else []) := fun m hm => by
    rw [r_q_succ, j81, j85, r_q_c (J := J) (fun x hx => ⟨hJ _ _ (by omega) (by omega), hJ _ _ (by omega) (by omega)⟩)]
    by_cases hc : m = j
    · rw [if_pos hc, if_pos ⟨by rw [hc], rfl⟩]
    · rw [if_neg hc, if_neg (fun g => hc ((nI_eq (by omega) (by omega)).mp g.1).symm)]
  refine Co.rel ⟨⟨by omega, by omega, x_bus_row hb (by omega) (fun a ha ha3 ha5 => funext fun k => hP _ _ (by omega) (by omega) (Or.inl (ha5 j hj))), ?_⟩, fun a b a2 b2 hp => ?_, ⟨i4, j12, r_rg_d h3 (fun x _ => hJ _ _ (by omega) (by omega))⟩, fun m hm2 => ?_, fun x hx => ?_, fun x hx => ?_, ?_⟩ ?_ ?_ ?_
  · have e68 : P' 68 = P 68 := funext fun k => hP _ _ (by omega) (by omega) (by omega)
    unfold x_mdl at hmd ⊢
    rw [e68]
    exact ⟨by omega, hmd.2⟩
  · by_cases hc : a = 101 + made
    · subst hc
      rcases hp with ⟨p1, _⟩ | ⟨p1, p2, _⟩ | ⟨p1, p2, _⟩ | ⟨p0, p1, p2, p3, p4⟩ | ⟨p1, p2, ⟨rfl, rfl⟩ | ⟨rfl, p3, p4⟩ | ⟨rfl, rfl⟩⟩
      · omega
      · omega
      · omega
      · omega
      · have eb : b2 = made := by omega
        subst eb
        exact z1.trans j82.symm
      · have eb : b2 = made := by omega
        subst eb
        match b, p3, p4 with
        | 5, _, _ => exact z5.trans j84.symm
        | 6, _, _ => exact z6.trans j85.symm
        | 7, _, _ => exact z7.trans ((hJ _ _ (by omega) (by omega)).trans r2).symm
        | 8, _, _ => exact z8.trans ((hJ _ _ (by omega) (by omega)).trans r3).symm
      · have eb : b2 = made := by omega
        subst eb
        exact z10.trans ((hJ _ _ (by omega) (by omega)).trans r5).symm
    · have hp2 : pr made a b a2 b2 := by
        rcases hp with p | p | p | p | ⟨p1, p2, p3⟩
        · exact Or.inl p
        · exact Or.inr (Or.inl p)
        · exact Or.inr (Or.inr (Or.inl p))
        · exact Or.inr (Or.inr (Or.inr (Or.inl p)))
        · exact Or.inr (Or.inr (Or.inr (Or.inr ⟨p1, by omega, p3⟩)))
      have e1 := e _ _ _ _ hp2
      unfold pr at hp2
      have g1 : (a ≠ 1 ∨ b ≠ 4) ∧ (a ≠ 8 + 10 * j ∨ b ≠ 11) := by omega
      have g2 : (a2 < 81 ∨ 84 < a2 ∨ b2 ≠ made) ∧ (a2 ≠ 68 ∨ b2 ≠ 12) := by omega
      rw [hI _ _ hc g1.1 g1.2, hJ _ _ g2.1 g2.2]
      exact e1
  · obtain ⟨a1, a2, a3, a4⟩ := h4 m hm2
    refine ⟨(hI _ _ (by omega) (by omega) (by omega)).trans a1, r_nr_d a2 (fun a _ _ => hJ _ _ (by omega) (by omega)), ?_, r_sb_c a4 hm2 (fun a k _ _ => hI _ _ (by omega) (by omega) (by omega)) (hI _ _ (by omega) (by omega) (by omega)) (fun j => ⟨hJ _ _ (by omega) (by omega), hJ _ _ (by omega) (by omega), hJ _ _ (by omega) (by omega), hJ _ _ (by omega) (by omega), hJ _ _ (by omega) (by omega)⟩)⟩
    obtain ⟨b1, b2, b3⟩ := a3
    unfold r_qu
    rw [hq m hm2]
    by_cases hc : m = j
    · subst hc
      rw [if_pos rfl, List.length_append]
      refine ⟨by simp; omega, i11, fun k x hx => ?_⟩
      by_cases hk : k < (r_q J made m).length
      · rw [List.getElem?_append_left hk] at hx
        rw [hP _ _ (by omega) (by omega) (by omega)]
        exact b3 k x hx
      · rw [List.getElem?_append_right (by omega)] at hx
        have hk0 : k - (r_q J made m).length < 1 := (List.getElem?_eq_some_iff.mp hx).1
        have ek : k = (r_q J made m).length := by omega
        subst ek
        rw [Nat.sub_self] at hx
        have ec : x = made := (Option.some.inj hx).symm
        subst ec
        exact p5
    · rw [if_neg hc, List.append_nil]
      refine ⟨b1, (hI _ _ (by omega) (by omega) (by omega)).trans b2, fun k x hx => ?_⟩
      rw [hP _ _ (by omega) (by omega) (by omega)]
      exact b3 k x hx
  · by_cases hc : x = made
    · subst hc
      refine ⟨⟨p3, ⟨xTY_req (by omega), by omega, by omega⟩, z0, ?_, ?_, ?_, fun g => ?_⟩, ⟨j, hj, j81⟩, ⟨t, ht, j82⟩, ?_, ?_, ?_, fun _ => ⟨0, by omega, ?_⟩⟩
      · rw [j83]
        exact z2
      · rw [j83]
        exact z3
      · rw [j83]
        exact z4
      · exact absurd ((hJ _ _ (by omega) (by omega)).trans r3) g
      · rw [j83]
        exact hw
      · exact Or.inl ((hJ _ _ (by omega) (by omega)).trans r4)
      · exact Or.inl ((hJ _ _ (by omega) (by omega)).trans r3)
      · exact (hJ _ _ (by omega) (by omega)).trans r2
    · obtain ⟨b, cc⟩ := h5 x (by omega)
      refine ⟨?_, r_rr_c cc (fun a _ _ => hJ _ _ (by omega) (by omega))⟩
      rw [hI _ _ (by omega) (by omega) (by omega), hI _ _ (by omega) (by omega) (by omega), hI _ _ (by omega) (by omega) (by omega), hI _ _ (by omega) (by omega) (by omega), hI _ _ (by omega) (by omega) (by omega), hJ _ _ (by omega) (by omega), hJ _ _ (by omega) (by omega), hJ _ _ (by omega) (by omega), hP _ _ (by omega) (by omega) (by omega)]
      exact ⟨b.1, x_at_mono b.2.1 (by omega), b.2.2⟩
  · rw [hJ _ _ (by omega) (by omega), hJ _ _ (by omega) (by omega), hJ _ _ (by omega) (by omega), hJ _ _ (by omega) (by omega), hJ _ _ (by omega) (by omega)]
    exact h6 x (by omega)
  · exact r_sr_c h7 (hJ _ _ (by omega) (by omega)) (fun j => ⟨hJ _ _ (by omega) (by omega), hJ _ _ (by omega) (by omega), hJ _ _ (by omega) (by omega), hJ _ _ (by omega) (by omega), hJ _ _ (by omega) (by omega)⟩)
  · rw [hI _ _ (by omega) (by omega) (by omega), hJ _ _ (by omega) (by omega)]
    exact h11
  · exact r_fr_c h8 (fun a j _ _ _ => hI _ _ (by omega) (by omega) (by omega)) (fun a j _ _ => hJ _ _ (by omega) (by omega))
  · exact r_sp_d h9 (fun j _ => ⟨hI _ _ (by omega) (by omega) (by omega), hI _ _ (by omega) (by omega) (by omega)⟩) (fun j _ _ => hJ _ _ (by omega) (by omega))
theorem sim_request (q : Rel z I J P made S) (n t w v : Int32) : k_rqV I n t w = s_rqV J n t w made ∧ ∃ made', made ≤ made' ∧ Rel (k_rqZ z I n t w) (k_rqI z I n t w v) (s_rqJ J n t w v made) (k_rqP z I P n t w) made' S := by
  have hzm := q.1.1
  have hm6 := q.1.2.1
  have same : ∃ made', made ≤ made' ∧ Rel z I J P made' S := ⟨made, Nat.le_refl _, q⟩
  unfold k_rqV s_rqV k_rqZ k_rqI s_rqJ k_rqP
  rw [r_isN, r_isN]
  by_cases hN : s_isN n = 0
  · simp only [if_pos hN]
    exact ⟨trivial, same⟩
  simp only [if_neg hN]
  by_cases hT : s_isN t = 0
  · simp only [if_pos hT]
    exact ⟨trivial, same⟩
  simp only [if_neg hT]
  by_cases hnt : n = t
  · simp only [if_pos hnt]
    exact ⟨trivial, same⟩
  simp only [if_neg hnt]
  by_cases hw : s_out w 0 2047 = 0
  · have hw2 : ¬ k_within w 0 2047 = 0 := fun g => (r_out _ _ _).mp g hw
    simp only [if_pos hw, if_neg hw2]
    obtain ⟨j, hj5, rfl⟩ := s_isN_ix hN
    obtain ⟨t', ht5, rfl⟩ := s_isN_ix hT
    have hj : j < 6 := by omega
    have hqu := (q.co.2.2.2.1 j hj).2.2.1
    have i4 : I 1 4 = nI made := q.2.1.1.1
    have j12 : J 68 12 = nI made := q.2.1.1.2.1
    rw [k_nd_nI hj5, hqu.2.1, i4, j12, r_wait]
    by_cases h60 : made = 60
    · have e60 : nI made = 60 := by rw [h60]; decide
      have l60 : ¬ nI made < 60 := by rw [e60]; decide
      simp only [if_pos e60, if_neg l60]
      by_cases h4 : 4 ≤ nI (r_q J made j).length
      · simp only [if_pos h4]
        exact ⟨trivial, same⟩
      · simp only [if_neg h4]
        exact ⟨trivial, same⟩
    · have e60 : ¬ nI made = 60 := fun g => h60 ((nI_eq (b := 60) (by omega) (by omega)).mp g)
      have l60 : nI made < 60 := nI_lt (b := 60) (by omega) (by omega)
      simp only [if_neg e60, if_pos l60]
      by_cases h4 : (r_q J made j).length = 4
      · have a4 : 4 ≤ nI (r_q J made j).length := by rw [h4]; decide
        have b4 : nI (r_q J made j).length = 4 := by rw [h4]; decide
        simp only [if_pos a4, if_pos b4]
        exact ⟨trivial, same⟩
      · have hl4 : (r_q J made j).length < 4 := by have := hqu.1; omega
        have a4 : ¬ 4 ≤ nI (r_q J made j).length := nI_ge (b := 4) hl4 (by omega)
        have b4 : ¬ nI (r_q J made j).length = 4 := fun g => h4 ((nI_eq (b := 4) (by omega) (by omega)).mp g)
        simp only [if_neg a4, if_neg b4]
        refine ⟨?_, made + 1, by omega, ?_⟩
        · rw [nI_1, nI_pred]
        · unfold s_rq1
          rw [k_tn_nI (by omega), k_tn_nI (by omega), nI_1]
          refine q.newreq (t := t') (w := w) (v := v) (by omega) hj (by omega) hl4 hw ?_ ?_ ?_ ?_ ?_ ?_ ?_ ?_ ?_ ?_ ?_ ?_ ?_ ?_ ?_ ?_ ?_ ?_ ?_ ?_ ?_ ?_
          · intro a k g1 g2 g3
            rw [x_up_ne g3, k_rq1_ne g1 g2]
          · rw [x_up_ne (by omega)]
            show x_up (k_ri (x_z I z) z (I 1 4) (nI t') w v) 1 4 (I 1 4 + 1) 1 4 = _
            rw [x_up_eq ⟨rfl, rfl⟩, i4, nI_1]
          · rw [x_up_eq ⟨rfl, rfl⟩, k_rq1_ne (by omega) (by omega), hqu.2.1, nI_1]
          · rw [x_up_ne (by omega)]
            show x_up (k_ri (x_z I z) z (I 1 4) (nI t') w v) 1 4 (I 1 4 + 1) z 0 = _
            unfold k_ri
            rw [x_up_ne (by omega), x_up_ne (by omega), x_up_ne (by omega), x_up_ne (by omega), x_up_ne (by omega), x_up_ne (by omega), x_up_eq ⟨rfl, rfl⟩, i4]
          · rw [x_up_ne (by omega)]
            show x_up (k_ri (x_z I z) z (I 1 4) (nI t') w v) 1 4 (I 1 4 + 1) z 1 = _
            unfold k_ri
            rw [x_up_ne (by omega), x_up_ne (by omega), x_up_ne (by omega), x_up_ne (by omega), x_up_ne (by omega), x_up_eq ⟨rfl, rfl⟩]
          · rw [x_up_ne (by omega)]
            show x_up (k_ri (x_z I z) z (I 1 4) (nI t') w v) 1 4 (I 1 4 + 1) z 2 = _
            unfold k_ri
            rw [x_up_ne (by omega), x_up_ne (by omega), x_up_ne (by omega), x_up_ne (by omega), x_up_eq ⟨rfl, rfl⟩]
            rfl
          · rw [x_up_ne (by omega)]
            show x_up (k_ri (x_z I z) z (I 1 4) (nI t') w v) 1 4 (I 1 4 + 1) z 3 = _
            unfold k_ri
            rw [x_up_ne (by omega), x_up_ne (by omega), x_up_ne (by omega), x_up_eq ⟨rfl, rfl⟩]
            rfl
          · rw [x_up_ne (by omega)]
            show x_up (k_ri (x_z I z) z (I 1 4) (nI t') w v) 1 4 (I 1 4 + 1) z 4 = _
            unfold k_ri
            rw [x_up_ne (by omega), x_up_ne (by omega), x_up_eq ⟨rfl, rfl⟩]
            rfl
          · rw [x_up_ne (by omega)]
            show x_up (k_ri (x_z I z) z (I 1 4) (nI t') w v) 1 4 (I 1 4 + 1) z 5 = _
            unfold k_ri
            rw [x_up_ne (by omega), x_up_eq ⟨rfl, rfl⟩]
          · rw [x_up_ne (by omega)]
            show x_up (k_ri (x_z I z) z (I 1 4) (nI t') w v) 1 4 (I 1 4 + 1) z 6 = _
            unfold k_ri
            rw [x_up_ne (by omega), x_up_ne (by omega), x_up_ne (by omega), x_up_ne (by omega), x_up_ne (by omega), x_up_ne (by omega), x_up_ne (by omega), x_up_eq ⟨rfl, rfl⟩]
          · rw [x_up_ne (by omega)]
            show x_up (k_ri (x_z I z) z (I 1 4) (nI t') w v) 1 4 (I 1 4 + 1) z 7 = _
            unfold k_ri
            rw [x_up_ne (by omega), x_up_ne (by omega), x_up_ne (by omega), x_up_ne (by omega), x_up_ne (by omega), x_up_ne (by omega), x_up_ne (by omega), x_up_ne (by omega)]
            exact congrFun (if_pos rfl) 7
          · rw [x_up_ne (by omega)]
            show x_up (k_ri (x_z I z) z (I 1 4) (nI t') w v) 1 4 (I 1 4 + 1) z 8 = _
            unfold k_ri
            rw [x_up_ne (by omega), x_up_ne (by omega), x_up_ne (by omega), x_up_ne (by omega), x_up_ne (by omega), x_up_ne (by omega), x_up_ne (by omega), x_up_ne (by omega)]
            exact congrFun (if_pos rfl) 8
          · rw [x_up_ne (by omega)]
            show x_up (k_ri (x_z I z) z (I 1 4) (nI t') w v) 1 4 (I 1 4 + 1) z 10 = _
            unfold k_ri
            rw [x_up_ne (by omega), x_up_ne (by omega), x_up_ne (by omega), x_up_ne (by omega), x_up_ne (by omega), x_up_ne (by omega), x_up_ne (by omega), x_up_ne (by omega)]
            exact congrFun (if_pos rfl) 10
          · intro a k g1 g2 g3
            rw [x_upP_ne g3, x_upP_ne g2]
            exact congrFun (if_neg g1) k
          · rw [x_upP_ne (by omega), x_upP_eq ⟨rfl, rfl⟩]
          · rw [x_upP_eq ⟨rfl, rfl⟩]
          · intro a k g1 g2
            rw [x_up_ne (by omega), x_up_ne (by omega), x_up_ne (by omega), x_up_ne (by omega), x_up_ne (by omega)]
          · rw [x_up_ne (by omega), x_up_ne (by omega), x_up_ne (by omega), x_up_ne (by omega), x_up_eq ⟨rfl, rfl⟩]
          · rw [x_up_ne (by omega), x_up_ne (by omega), x_up_ne (by omega), x_up_eq ⟨rfl, rfl⟩]
          · rw [x_up_ne (by omega), x_up_ne (by omega), x_up_eq ⟨rfl, rfl⟩]
          · rw [x_up_ne (by omega), x_up_eq ⟨rfl, rfl⟩]
          · rw [x_up_eq ⟨rfl, rfl⟩]
  · have hw2 : k_within w 0 2047 = 0 := (r_out _ _ _).mpr hw
    simp only [if_neg hw, if_pos hw2]
    exact ⟨trivial, same⟩
end partC0
