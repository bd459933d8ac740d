/-! what the relation gives to the contracts -/
section partC2
variable {z : Nat} {I I' J J' K : xI} {P P' : xP} {made S s f h n k c r t j : Nat}
theorem Rel.mg (q : Rel z I J P made S) : Rel z (x_mg I J) J P made S := q.congr (fun _ ha => x_mg_out ha)
theorem x_mg_self (I : xI) : x_mg I I = I := by
  funext a
  unfold x_mg
  by_cases h : 68 ≤ a ∧ a ≤ 100
  · rw [if_pos h]
  · rw [if_neg h]
theorem x_mg_own (h : ∀ a k, 68 ≤ a → a ≤ 100 → I' a k = x_mg K J a k) : I' = x_mg I' J := by
  funext a
  by_cases g : 68 ≤ a ∧ a ≤ 100
  · rw [x_mg_in g]
    funext k
    rw [h a k g.1 g.2, x_mg_in g]
  · rw [x_mg_out (by omega)]
theorem k_nd_lt {m : Int32} (h : ¬ k_within m 0 5 = 0) : ∃ j, j < 6 ∧ k_nd m = 8 + 10 * j := by
  rw [r_isN] at h
  obtain ⟨j, hj, rfl⟩ := s_isN_ix h
  exact ⟨j, by omega, k_nd_nI hj⟩
theorem o_sn (m v : Int32) : ∀ a k, 68 ≤ a → a ≤ 100 → k_snI I m v a k = I a k := fun a k h1 h2 => by
  unfold k_snI
  by_cases c1 : k_within m 0 5 = 0
  · rw [if_pos c1]
  rw [if_neg c1]
  by_cases c2 : k_within v (-10000) 10000 = 0
  · rw [if_pos c2]
  obtain ⟨j, hj, e⟩ := k_nd_lt c1
  rw [if_neg c2, x_up_ne (by omega)]
theorem o_ga (m p i : Int32) : ∀ a k, 68 ≤ a → a ≤ 100 → k_gaI I m p i a k = I a k := fun a k h1 h2 => by
  unfold k_gaI
  by_cases c1 : k_within m 0 5 = 0
  · rw [if_pos c1]
  rw [if_neg c1]
  by_cases c2 : k_within p 0 100 = 0
  · rw [if_pos c2]
  rw [if_neg c2]
  by_cases c3 : k_within i 0 100 = 0
  · rw [if_pos c3]
  obtain ⟨j, hj, e⟩ := k_nd_lt c1
  rw [if_neg c3, k_tune_ne (by omega)]
theorem o_so (w m i : Int32) : ∀ a k, 68 ≤ a → a ≤ 100 → k_soI I w m i a k = I a k := fun a k h1 h2 => by
  unfold k_soI
  by_cases c1 : k_within w 0 1 = 0
  · rw [if_pos c1]
  rw [if_neg c1]
  by_cases c2 : k_within m 0 17 = 0
  · rw [if_pos c2]
  rw [if_neg c2]
  by_cases c3 : k_within i 1 255 = 0
  · rw [if_pos c3]
  rw [if_neg c3]
  by_cases c4 : w = 0
  · rw [if_pos c4, x_up_ne (by omega), x_up_ne (by omega), k_fs_ne (by omega)]
  · rw [if_neg c4, x_up_ne (by omega), x_up_ne (by omega), k_fs_ne (by omega)]
theorem o_rq (hz : 101 ≤ z) (m t w v : Int32) : ∀ a k, 68 ≤ a → a ≤ 100 → k_rqI z I m t w v a k = I a k := fun a k h1 h2 => by
  unfold k_rqI
  by_cases c1 : k_within m 0 5 = 0
  · rw [if_pos c1]
  rw [if_neg c1]
  by_cases c2 : k_within t 0 5 = 0
  · rw [if_pos c2]
  rw [if_neg c2]
  by_cases c3 : m = t
  · rw [if_pos c3]
  rw [if_neg c3]
  by_cases c4 : k_within w 0 2047 = 0
  · rw [if_pos c4]
  rw [if_neg c4]
  by_cases c5 : 4 ≤ I (k_nd m) 11
  · rw [if_pos c5]
  rw [if_neg c5]
  by_cases c6 : I 1 4 < 60
  · obtain ⟨j, hj, e⟩ := k_nd_lt c1
    rw [if_pos c6, x_up_ne (by omega), k_rq1_ne (by omega) (by omega)]
  · rw [if_neg c6]
theorem Rel.ok (q : Rel z I J P made S) : k_ok z I P := by
  obtain ⟨⟨hz, hm6, hb, hmd⟩, e, ⟨t1, t2, h3⟩, h4, h5, h6, h7⟩ := q.co
  refine ⟨?_, fun n hn => ?_, fun n hn => ?_, fun n hn => ?_, ?_⟩
  · obtain ⟨w, s9, mk, s0, s1, p1, p2, p3, p4, p5, d1, d2, d3, d4, d5, -⟩ := q.2.2.2.2.2.2
    exact ⟨s0, s1, p4, p5, d4, d5⟩
  · obtain ⟨-, -, -, b1, b2, b3⟩ := h4 n hn
    refine ⟨_, b1, b2, fun k hk => ?_⟩
    have hk2 := List.getElem?_eq_getElem hk
    obtain ⟨w, hw, ew⟩ := (h7.2.2.1 _ (r_s_mem hk2).1).2.1
    exact ⟨w, hw, (b3 k _ hk2).1.trans ew⟩
  · obtain ⟨-, -, ⟨b1, b2, b3⟩, -⟩ := h4 n hn
    refine ⟨_, b1, b2, fun k hk => ?_⟩
    have hk2 := List.getElem?_eq_getElem hk
    have hm := List.mem_of_getElem? hk2
    generalize (r_q J made n)[k] = r at hk2 hm
    unfold r_q at hm
    rw [List.mem_filter] at hm
    have hr : r < made := List.mem_range.mp hm.1
    obtain ⟨⟨-, c1, -⟩, c7⟩ := h5 r hr
    obtain ⟨t, ht, et⟩ := c7.2.1
    exact ⟨101 + r, b3 k r hk2, c1, by omega, t, ht, (e _ _ _ _ (pr_r1 hr)).trans et⟩
  · obtain ⟨x, hx, ex⟩ := (h4 n hn).2.1.2.1
    exact ⟨x, hx, (e _ _ _ _ (pr_nd (k := 6) hn (by decide) (by decide))).trans ex⟩
  · rw [e _ _ _ _ (pr_sc (k := 5) (by decide) (by decide))]
    exact h3.1
theorem Rel.hH (q : Rel z I J P made S) : ∃ h nx, 0 ≤ J 68 32 → h < 6 ∧ J 68 32 = nI h ∧ nx < 6 ∧ J 70 h = nI nx := by
  rcases q.2.1.2.1 with e | ⟨h, hh, e⟩
  · refine ⟨0, 0, fun g => ?_⟩
    rw [e] at g
    exact absurd g (by decide)
  · obtain ⟨x, hx, ex⟩ := (q.co.2.2.2.1 h hh).2.1.2.1
    exact ⟨h, x, fun _ => ⟨hh, e, hx, ex⟩⟩
theorem Rel.rq (q : Rel z I J P made S) : ∀ k, k < made → P 3 k = some (101 + k) ∧ x_at 2 z (101 + k) := fun k hk => ⟨(q.2.2.2.1.1 k hk).1.1, (q.2.2.2.1.1 k hk).1.2.1⟩
theorem Rel.hQ (q : Rel z I J P made S) : ∀ j, j < 6 → ∃ x, x ≤ 4 ∧ I (8 + 10 * j) 11 = nI x := fun j hj => ⟨_, (q.co.2.2.2.1 j hj).2.2.1.1, (q.co.2.2.2.1 j hj).2.2.1.2.1⟩
theorem Rel.sr (q : Rel z I J P made S) : r_sr J S := q.2.2.2.2.1
theorem Rel.room (q : Rel z I J P made S) : ∀ t, t < 6 → ¬ s_sof J (nI t) S = 3 → S < 18 := fun t ht g => by
  rw [r_sof] at g
  have hl := (q.co.2.2.2.1 t ht).2.2.2.1
  refine r_room q.sr (fun m hm => (q.co.2.2.2.1 m hm).2.2.2.1) ht ?_
  by_cases hc : (r_s J S t).length = 3
  · rw [hc] at g
    exact absurd (by decide) g
  · omega
theorem Rel.hw (q : Rel z I J P made S) : ∀ x, x < S → ∃ w, w < 6 ∧ J 91 x = nI w := fun x hx => (q.sr.2.2.1 x hx).2.1
theorem Rel.hr (q : Rel z I J P made S) : ∀ r, r < made → ∃ t, t < 6 ∧ J 82 r = nI t := fun r hr => (q.2.2.2.1.1 r hr).2.2.1
theorem Rel.len (q : Rel z I J P made S) : ∀ f, f ≤ 1 → ∃ s, s ≤ 18 ∧ J 100 f = nI s := fun f hf => by
  obtain ⟨-, -, -, f4, f5⟩ := q.2.2.2.2.2.1
  rcases (show f = 0 ∨ f = 1 by omega) with rfl | rfl
  · exact f4
  · exact f5
theorem Rel.len4 (q : Rel z I J P made S) : ∃ s0 s1, s0 ≤ 18 ∧ s1 ≤ 18 ∧ I 4 1 = nI s0 ∧ I 6 1 = nI s1 := by
  obtain ⟨-, f2, f3, ⟨s0, g0, e0⟩, s1, g1, e1⟩ := q.2.2.2.2.2.1
  exact ⟨s0, s1, g0, g1, f2.trans e0, f3.trans e1⟩
end partC2
