/-! what a change elsewhere leaves of the relation -/
section partB4
variable {z : Nat} {I I' J J' : xI} {P P' : xP} {made S n r : Nat}
theorem r_sc_c (h : r_sc I J made) (hI : ∀ j, I' 1 j = I 1 j) (hJ : ∀ j, J' 68 j = J 68 j) : r_sc I' J' made := by
  unfold r_sc
  simp only [hI, hJ]
  exact h
theorem r_rg_c (h : r_rg J) (hJ : ∀ j, J' 68 j = J 68 j) : r_rg J' := by
  unfold r_rg
  simp only [hJ]
  exact h
theorem r_nd_c (h : r_nd I J n) (hI : ∀ j, I' (8 + 10 * n) j = I (8 + 10 * n) j) (hJ : ∀ a, 69 ≤ a → a ≤ 98 → J' a n = J a n) : r_nd I' J' n := by
  unfold r_nd
  rw [hJ 69 (by omega) (by omega), hJ 70 (by omega) (by omega), hJ 71 (by omega) (by omega), hJ 72 (by omega) (by omega), hJ 73 (by omega) (by omega), hJ 74 (by omega) (by omega), hJ 95 (by omega) (by omega), hJ 96 (by omega) (by omega), hJ 97 (by omega) (by omega), hJ 98 (by omega) (by omega)]
  simp only [hI]
  exact h
theorem r_lo_c (h : r_lo I J n) (hI : ∀ j, I' (8 + 10 * n + 4) j = I (8 + 10 * n + 4) j) (hJ : ∀ a, 69 ≤ a → a ≤ 98 → J' a n = J a n) : r_lo I' J' n := by
  unfold r_lo
  rw [hJ 75 (by omega) (by omega), hJ 76 (by omega) (by omega), hJ 77 (by omega) (by omega), hJ 78 (by omega) (by omega)]
  simp only [hI]
  exact h
theorem r_nr_c (h : r_nr J n) (hJ : ∀ a, 69 ≤ a → a ≤ 98 → J' a n = J a n) : r_nr J' n := by
  unfold r_nr
  rw [hJ 69 (by omega) (by omega), hJ 70 (by omega) (by omega), hJ 71 (by omega) (by omega), hJ 74 (by omega) (by omega), hJ 75 (by omega) (by omega), hJ 76 (by omega) (by omega), hJ 77 (by omega) (by omega), hJ 78 (by omega) (by omega)]
  exact h
theorem r_ou_c (h : r_ou I J n) (hI : ∀ j, I' (8 + 10 * n + 2) j = I (8 + 10 * n + 2) j ∧ I' (8 + 10 * n + 3) j = I (8 + 10 * n + 3) j) (hJ : ∀ j, J' 79 j = J 79 j ∧ J' 80 j = J 80 j) : r_ou I' J' n := fun l hl => by
  rw [(hI l).1, (hI l).2, (hJ _).1, (hJ _).2]
  exact h l hl
theorem r_q_c (hJ : ∀ j, j < made → J' 81 j = J 81 j ∧ J' 85 j = J 85 j) : r_q J' made n = r_q J made n := by
  unfold r_q
  apply List.filter_congr
  intro x hx
  have := List.mem_range.mp hx
  rw [(hJ x this).1, (hJ x this).2]
theorem r_qu_c (h : r_qu I J P made n) (hI : I' (8 + 10 * n) 11 = I (8 + 10 * n) 11) (hJ : ∀ j, j < made → J' 81 j = J 81 j ∧ J' 85 j = J 85 j) : r_qu I' J' P made n := by
  unfold r_qu
  rw [r_q_c hJ, hI]
  exact h
theorem r_s_c (hJ : ∀ j, j < S → J' 90 j = J 90 j) : r_s J' S n = r_s J S n := by
  unfold r_s
  apply List.filter_congr
  intro x hx
  rw [hJ x (List.mem_range.mp hx)]
theorem r_sb_c (h : r_sb I J S n) (hn : n < 6) (hI : ∀ a j, 8 + 10 * n + 7 ≤ a → a < 8 + 10 * n + 10 → I' a j = I a j) (hI2 : I' (8 + 10 * n) 12 = I (8 + 10 * n) 12) (hJ : ∀ j, J' 90 j = J 90 j ∧ J' 91 j = J 91 j ∧ J' 92 j = J 92 j ∧ J' 93 j = J 93 j ∧ J' 94 j = J 94 j) : r_sb I' J' S n := by
  obtain ⟨b1, b2, b3⟩ := h
  have e := r_s_c (n := n) (S := S) (fun j _ => (hJ j).1)
  refine ⟨by rw [e]; exact b1, by rw [e, hI2]; exact b2, fun k q hq => ?_⟩
  rw [e] at hq
  have hk : k < (r_s J S n).length := (List.getElem?_eq_some_iff.mp hq).1
  rw [hI _ _ (by omega) (by omega), hI _ _ (by omega) (by omega), hI _ _ (by omega) (by omega), hI _ _ (by omega) (by omega), (hJ q).2.1, (hJ q).2.2.1, (hJ q).2.2.2.1, (hJ q).2.2.2.2]
  exact b3 k q hq
theorem r_sr_c (h : r_sr J S) (h22 : J' 68 22 = J 68 22) (hJ : ∀ j, J' 90 j = J 90 j ∧ J' 91 j = J 91 j ∧ J' 92 j = J 92 j ∧ J' 93 j = J 93 j ∧ J' 94 j = J 94 j) : r_sr J' S := by
  obtain ⟨a1, a2, a3, a4⟩ := h
  refine ⟨by rw [h22]; exact a1, a2, fun q hq => ?_, fun j => by rw [(hJ j).2.2.2.2]; exact a4 j⟩
  rw [(hJ q).1, (hJ q).2.1, (hJ q).2.2.1]
  exact a3 q hq
theorem r_rq_c (h : r_rq I J P z r) (hI : ∀ j, I' (101 + r) j = I (101 + r) j) (hJ : ∀ a, 81 ≤ a → a ≤ 89 → J' a r = J a r) : r_rq I' J' P z r := by
  unfold r_rq
  rw [hJ 82 (by omega) (by omega), hJ 83 (by omega) (by omega), hJ 84 (by omega) (by omega), hJ 85 (by omega) (by omega), hJ 86 (by omega) (by omega), hJ 87 (by omega) (by omega), hJ 88 (by omega) (by omega), hJ 89 (by omega) (by omega)]
  simp only [hI]
  exact h
theorem r_rr_c (h : r_rr J r) (hJ : ∀ a, 81 ≤ a → a ≤ 89 → J' a r = J a r) : r_rr J' r := by
  unfold r_rr
  rw [hJ 81 (by omega) (by omega), hJ 82 (by omega) (by omega), hJ 83 (by omega) (by omega), hJ 85 (by omega) (by omega), hJ 86 (by omega) (by omega), hJ 87 (by omega) (by omega), hJ 88 (by omega) (by omega)]
  exact h
theorem r_r0_c (h : r_r0 J made) (hJ : ∀ a j, 85 ≤ a → a ≤ 89 → J' a j = J a j) : r_r0 J' made := fun q hq => by
  rw [hJ 85 q (by omega) (by omega), hJ 86 q (by omega) (by omega), hJ 87 q (by omega) (by omega), hJ 88 q (by omega) (by omega), hJ 89 q (by omega) (by omega)]
  exact h q hq
theorem r_fr_c (h : r_fr I J) (hI : ∀ a j, 4 ≤ a → a ≤ 7 → (a = 5 ∨ a = 7 ∨ j = 1) → I' a j = I a j) (hJ : ∀ a j, 99 ≤ a → a ≤ 100 → J' a j = J a j) : r_fr I' J' := by
  obtain ⟨a1, a2, a3, a4, a5⟩ := h
  refine ⟨fun k hk => ?_, ?_, ?_, ?_, ?_⟩
  · rw [hI 5 k (by omega) (by omega) (by omega), hI 7 k (by omega) (by omega) (by omega), hJ 99 _ (by omega) (by omega), hJ 99 _ (by omega) (by omega)]
    exact a1 k hk
  · rw [hI 4 1 (by omega) (by omega) (by omega), hJ 100 0 (by omega) (by omega)]
    exact a2
  · rw [hI 6 1 (by omega) (by omega) (by omega), hJ 100 1 (by omega) (by omega)]
    exact a3
  · rw [hJ 100 0 (by omega) (by omega)]
    exact a4
  · rw [hJ 100 1 (by omega) (by omega)]
    exact a5
theorem r_sp_c (h : r_sp I J) (hI : ∀ j, I' 4 j = I 4 j ∧ I' 6 j = I 6 j) (hJ : ∀ j, J' 68 j = J 68 j) : r_sp I' J' := by
  unfold r_sp
  rw [(hI 2).1, (hI 3).1, (hI 2).2, (hI 3).2, hJ 42, hJ 43, hJ 44]
  exact h
end partB4
theorem pr_ne {I J : xI} {a k b j a' k' b' j' : Nat} {v w : Int32} (h : I b j = J b' j') (h1 : b ≠ a ∨ j ≠ k) (h2 : b' ≠ a' ∨ j' ≠ k') : x_up I a k v b j = x_up J a' k' w b' j' := (x_up_ne h1).trans (h.trans (x_up_ne h2).symm)
/-! sense -/
theorem sim_sense {z : Nat} {I J : xI} {P : xP} {made S : Nat} (h : Rel z I J P made S) (n v : Int32) : k_snV n v = s_snV n v ∧ Rel z (k_snI I n v) (s_snJ J n v) P made S := by
  have hd := r_out v (-10000) 10000
  unfold k_snV s_snV k_snI s_snJ
  rw [r_isN]
  by_cases hN : s_isN n = 0
  · simp only [if_pos hN]
    exact ⟨trivial, h⟩
  simp only [if_neg hN]
  by_cases ho : s_out v (-10000) 10000 = 0
  · have hw : ¬ k_within v (-10000) 10000 = 0 := fun q => hd.mp q ho
    simp only [if_neg hw, if_pos ho]
    refine ⟨trivial, ?_⟩
    obtain ⟨j, hj, e⟩ := s_isN_ix hN
    subst e
    rw [k_nd_nI hj, k_tn_nI (by omega)]
    obtain ⟨h1, ⟨h2, h3⟩, h4, ⟨h5, h6⟩, h7, h8, h9⟩ := h
    refine ⟨h1, ⟨r_sc_c h2 (fun j => x_up_ne (by omega)) (fun j => x_up_ne (by omega)), r_rg_c h3 (fun j => x_up_ne (by omega))⟩, fun m hm => ?_, ⟨fun r hr => ⟨r_rq_c (h5 r hr).1 (fun j => x_up_ne (by omega)) (fun a _ _ => x_up_ne (by omega)), r_rr_c (h5 r hr).2 (fun a _ _ => x_up_ne (by omega))⟩, r_r0_c h6 (fun a j _ _ => x_up_ne (by omega))⟩, r_sr_c h7 (x_up_ne (by omega)) (fun j => ⟨x_up_ne (by omega), x_up_ne (by omega), x_up_ne (by omega), x_up_ne (by omega), x_up_ne (by omega)⟩), r_fr_c h8 (fun a j _ _ _ => x_up_ne (by omega)) (fun a j _ _ => x_up_ne (by omega)), r_sp_c h9 (fun j => ⟨x_up_ne (by omega), x_up_ne (by omega)⟩) (fun j => x_up_ne (by omega))⟩
    obtain ⟨a1, a2, a3, a4, a5, a6⟩ := h4 m hm
    have q4 : r_ou (x_up I (8 + 10 * j) 10 v) (x_up J 74 j v) m := r_ou_c a4 (fun j => ⟨x_up_ne (by omega), x_up_ne (by omega)⟩) (fun j => ⟨x_up_ne (by omega), x_up_ne (by omega)⟩)
    have q5 : r_qu (x_up I (8 + 10 * j) 10 v) (x_up J 74 j v) P made m := r_qu_c a5 (x_up_ne (by omega)) (fun j _ => ⟨x_up_ne (by omega), x_up_ne (by omega)⟩)
    have q6 : r_sb (x_up I (8 + 10 * j) 10 v) (x_up J 74 j v) S m := r_sb_c a6 hm (fun a k _ _ => x_up_ne (by omega)) (x_up_ne (by omega)) (fun j => ⟨x_up_ne (by omega), x_up_ne (by omega), x_up_ne (by omega), x_up_ne (by omega), x_up_ne (by omega)⟩)
    have q2 : r_lo (x_up I (8 + 10 * j) 10 v) (x_up J 74 j v) m := by
      obtain ⟨b1, b2, b3, b4⟩ := a2
      exact ⟨pr_ne b1 (by omega) (by omega), pr_ne b2 (by omega) (by omega), pr_ne b3 (by omega) (by omega), pr_ne b4 (by omega) (by omega)⟩
    have q1 : r_nd (x_up I (8 + 10 * j) 10 v) (x_up J 74 j v) m := by
      obtain ⟨b1, b2, b3, b4, b5, b6, b7, b8, b9, b10, b11⟩ := a1
      refine ⟨(x_up_ne (by omega)).trans b1, pr_ne b2 (by omega) (by omega), pr_ne b3 (by omega) (by omega), pr_ne b4 (by omega) (by omega), pr_ne b5 (by omega) (by omega), pr_ne b6 (by omega) (by omega), ?_, pr_ne b8 (by omega) (by omega), pr_ne b9 (by omega) (by omega), pr_ne b10 (by omega) (by omega), pr_ne b11 (by omega) (by omega)⟩
      by_cases hmj : m = j
      · subst hmj
        rw [x_up_eq ⟨rfl, rfl⟩, x_up_eq ⟨rfl, rfl⟩]
      · exact pr_ne b7 (by omega) (by omega)
    have q3 : r_nr (x_up J 74 j v) m := by
      obtain ⟨b1, b2, b3, b4, b5, b6, b7, b8⟩ := a3
      refine ⟨by rw [x_up_ne (by omega)]; exact b1, by rw [x_up_ne (by omega)]; exact b2, by rw [x_up_ne (by omega)]; exact b3, ?_, by rw [x_up_ne (by omega)]; exact b5, by rw [x_up_ne (by omega)]; exact b6, by rw [x_up_ne (by omega)]; exact b7, by rw [x_up_ne (by omega)]; exact b8⟩
      by_cases hmj : m = j
      · rw [x_up_eq ⟨rfl, hmj⟩]
        exact ho
      · rw [x_up_ne (by omega)]
        exact b4
    exact ⟨q1, q2, q3, q4, q5, q6⟩
  · have hw : k_within v (-10000) 10000 = 0 := hd.mpr ho
    simp only [if_pos hw, if_neg ho]
    exact ⟨trivial, h⟩
