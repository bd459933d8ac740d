/-! a request asked: alike -/
theorem x_up_id {I : xI} {a k : Nat} {v : Int32} (h : I a k = v) : x_up I a k v = I := by
  funext b j
  by_cases hc : b = a ∧ j = k
  · rw [x_up_eq hc, hc.1, hc.2, h]
  · rw [x_up_ne (by omega)]
section partBO
variable {W : xI} {z : Nat} {I J : xI} {P : xP} {made S s f h n k c r t : Nat}
theorem r_q_head {L : List Nat} (hq : r_q J made h = r :: L) : r < made ∧ J 81 r = nI h ∧ J 85 r = 0 := by
  have hmem : r ∈ r_q J made h := by rw [hq]; exact List.mem_cons_self
  unfold r_q at hmem
  rw [List.mem_filter] at hmem
  exact ⟨List.mem_range.mp hmem.1, by simpa using hmem.2⟩
theorem sim_tl {L : List Nat} {v : Int32} (q : St W z I J P made S s f) (hh : h < 6) (hq : r_q J made h = r :: L) (h87 : ¬ v = 0 → ¬ J 87 r = 0) : St W z (k_tlI I (8 + 10 * h) (101 + r) v) (s_tl J r v) (k_tlP I P (8 + 10 * h) (101 + r) v) made S s f := by
  obtain ⟨hr, e81, e85⟩ := r_q_head hq
  obtain ⟨⟨c0, c1, c2, c3, c4, c5, c6⟩, c7⟩ := q.1.2.2.2.2.1 r hr
  obtain ⟨k, hk, e86⟩ := c7.2.2.2.2.2 e85
  have i7 : I (101 + r) 7 = nI k := (q.g (pr_r5 (k := 7) hr (by decide) (by decide))).trans e86
  have i6 : I (101 + r) 6 = 0 := (q.g (pr_r5 (k := 6) hr (by decide) (by decide))).trans e85
  have hle := (q.1.2.2.2.1 h hh).2.2.1
  have hlen : (r_q J made h).length = L.length + 1 := by rw [hq]; rfl
  have i11 : I (8 + 10 * h) 11 = nI (L.length + 1) := by rw [hle.2.1, hlen]
  have hl4 : L.length + 1 ≤ 4 := by rw [← hlen]; exact hle.1
  have d : ∀ w : Int32, ¬ w = 0 → St W z (x_up (x_up I (101 + r) 6 w) (8 + 10 * h) 11 (x_up I (101 + r) 6 w (8 + 10 * h) 11 - 1)) (x_up J 85 r w) (k_deq P (8 + 10 * h + 5) (k_tn (x_up I (101 + r) 6 w (8 + 10 * h) 11) - 1)) made S s f := fun w hw => by
    rw [x_up_ne (b := 8 + 10 * h) (by omega), i11, nI_pred, k_tn_nI (by omega), Nat.add_sub_cancel]
    exact q.done hh hq hw
  unfold k_tlI k_tlP k_tl6 s_tl s_tl1 k_try
  by_cases h0 : v = 0
  · simp only [if_pos h0]
    rw [i7, e86, nI_1, x_up_eq ⟨rfl, rfl⟩, x_up_eq ⟨rfl, rfl⟩]
    by_cases h2 : k < 2
    · have a1 : nI (k + 1) < 3 := nI_lt (b := 3) (by omega) (by omega)
      have a2 : ¬ nI (k + 1) = 3 := fun g => by
        have := (nI_eq (b := 3) (by omega) (by omega)).mp g
        omega
      rw [if_pos a1, if_neg a2, if_pos ((x_up_ne (by omega)).trans i6), if_pos ((x_up_ne (by omega)).trans i6), x_up_id (I := x_up J 86 r (nI (k + 1))) ((x_up_ne (by omega)).trans e85)]
      exact q.tried hr (fun _ => by omega)
    · have ek : k = 2 := by omega
      subst ek
      have d3 := (d 3 (by decide)).tried (x := 2 + 1) hr (fun g => by rw [x_up_eq ⟨rfl, rfl⟩] at g; exact absurd g (by decide))
      have n6 : ¬ x_up (x_up I (101 + r) 7 (nI (2 + 1))) (101 + r) 6 3 (101 + r) 6 = 0 := by
        rw [x_up_eq ⟨rfl, rfl⟩]
        decide
      rw [if_neg (show ¬ nI (2 + 1) < 3 by decide), if_pos (show nI (2 + 1) = 3 by decide), if_neg n6, if_neg n6, x_up_comm (I := J) (by omega), x_up_comm (I := I) (by omega), x_up_ne (I := x_up I (101 + r) 6 3) (by omega), x_up_comm (I := x_up I (101 + r) 6 3) (by omega)]
      exact d3
  · have i9 := c6 (h87 h0)
    simp only [if_neg h0]
    rw [x_up_id (I := J) (a := 86) (k := r) rfl]
    by_cases h8 : J 88 r = 0
    · have i9' : ¬ I (101 + r) 9 = 0 := fun g => i9.mp g h8
      have n6 : ¬ x_up I (101 + r) 6 1 (101 + r) 6 = 0 := by
        rw [x_up_eq ⟨rfl, rfl⟩]
        decide
      rw [if_pos h8, if_neg i9', if_neg n6, if_neg n6]
      exact d 1 (by decide)
    · have i9' : I (101 + r) 9 = 0 := i9.mpr h8
      have n6 : ¬ x_up I (101 + r) 6 2 (101 + r) 6 = 0 := by
        rw [x_up_eq ⟨rfl, rfl⟩]
        decide
      rw [if_neg h8, if_pos i9', if_neg n6, if_neg n6]
      exact d 2 (by decide)
theorem sim_ask {L : List Nat} (q : St W z I J P made S s 0) (hh : h < 6) (e32 : J 68 32 = nI h) (hq : r_q J made h = r :: L) : ∃ S' f, St W z (k_srI I (8 + 10 * h) (101 + r)) (s_ask J r 0 s S) (k_srP I P (8 + 10 * h) (101 + r)) made S' s f := by
  obtain ⟨hr, e81, e85⟩ := r_q_head hq
  obtain ⟨⟨c0, c1, c2, c3, c4, c5, c6⟩, c7⟩ := q.1.2.2.2.2.1 r hr
  obtain ⟨t, ht, et⟩ := c7.2.1
  have a1 : I (101 + r) 1 = J 82 r := q.g (pr_r1 hr)
  have a5 : I (101 + r) 5 = J 84 r := q.g (pr_r5 (k := 5) hr (by decide) (by decide))
  obtain ⟨q2, v2⟩ := q.data (fa := 4) (ba := 5) (ty := 5) (to := J 82 r) (so := nI h) (sv := s_sv (J 83 r)) (id := nI r) (ob := s_ob (J 83 r)) (le := s_lv (J 83 r)) (nu := J 84 r) (Or.inl ⟨rfl, rfl, rfl⟩)
  have i1 : k_wa I (8 + 10 * h) (101 + r) = k_wd (k_wh I 4 5 5 (J 82 r) (nI h) 8) 4 5 (s_sv (J 83 r)) (nI r) (s_ob (J 83 r)) (s_lv (J 83 r)) (J 84 r) := by
    unfold k_wa k_wa1
    rw [k_wh_ne (a := 101 + r) (by omega) (by omega), k_wh_ne (a := 101 + r) (by omega) (by omega), k_wh_ne (a := 101 + r) (by omega) (by omega), k_wh_ne (a := 101 + r) (by omega) (by omega), k_wh_ne (a := 101 + r) (by omega) (by omega), c2, c3, c4, c5, a5, a1, q.id hh]
  have j1 : s_a1 J r 0 82 r = J 82 r := s_lay_ne (by omega)
  have j2 : s_a1 J r 0 68 32 = nI h := (s_lay_ne (by omega)).trans e32
  have j3 : s_a2 J r 0 s = s_caJ (s_lay J 0 (s_sv (J 83 r)) (nI r) (s_ob (J 83 r)) (s_lv (J 83 r)) (J 84 r)) 0 s 5 (J 82 r) (nI h) 1 := by
    unfold s_a2
    rw [j1, j2]
    rfl
  have i2 : k_sr2 I (8 + 10 * h) (101 + r) = k_arI (k_wd (k_wh I 4 5 5 (J 82 r) (nI h) 8) 4 5 (s_sv (J 83 r)) (nI r) (s_ob (J 83 r)) (s_lv (J 83 r)) (J 84 r)) 4 5 := by
    unfold k_sr2
    rw [i1]
  rw [← i2, ← j3] at q2
  have g2 : ∀ a k, a ≠ 99 → a ≠ 100 → (a ≠ 68 ∨ k ≠ 39) → s_a2 J r 0 s a k = J a k := fun a k h1 h2 h3 => by
    rw [j3, s_caJ_ne h1 h2 h3, s_lay_ne h1]
  unfold k_srI k_srP s_ask
  rw [i1, v2, j1, j2]
  have v3 : s_caV (s_a1 J r 0) 0 s 5 (J 82 r) (nI h) 1 = s_caV (s_lay J 0 (s_sv (J 83 r)) (nI r) (s_ob (J 83 r)) (s_lv (J 83 r)) (J 84 r)) 0 s 5 (J 82 r) (nI h) 1 := rfl
  rw [v3]
  by_cases h1 : s_caV (s_lay J 0 (s_sv (J 83 r)) (nI r) (s_ob (J 83 r)) (s_lv (J 83 r)) (J 84 r)) 0 s 5 (J 82 r) (nI h) 1 = 0
  · rw [if_pos h1, if_pos h1, if_pos h1]
    refine ⟨S, 1, sim_tl (L := L) q2 hh ?_ (fun g => absurd rfl g)⟩
    rw [r_q_c (fun j _ => ⟨g2 _ _ (by omega) (by omega) (by omega), g2 _ _ (by omega) (by omega) (by omega)⟩)]
    exact hq
  rw [if_neg h1, if_neg h1, if_neg h1]
  clear v3 h1 v2 i2 j3 i1
  unfold k_sr3 s_a3
  generalize k_sr2 I (8 + 10 * h) (101 + r) = I2 at q2 ⊢
  generalize s_a2 J r 0 s = J2 at q2 g2 ⊢
  have b8 : I2 (101 + r) 8 = J2 87 r := q2.g (pr_r5 (k := 8) hr (by decide) (by decide))
  have b1 : I2 (101 + r) 1 = nI t := (q2.g (pr_r1 hr)).trans ((g2 _ _ (by omega) (by omega) (by omega)).trans et)
  have step3 : ∃ S' I3 J3, (if I2 (101 + r) 8 = 0 then k_co I2 (k_nd (I2 (101 + r) 1)) (101 + r) (I2 (8 + 10 * h) 0) (k_tn (I2 (k_nd (I2 (101 + r) 1)) 12)) else I2) = I3 ∧ (if J2 87 r = 0 then s_work J2 r S else J2) = J3 ∧ St W z I3 J3 P made S' s 1 ∧ ¬ J3 87 r = 0 ∧ ∀ a k, (81 ≤ a ∧ a ≤ 86) ∨ (a = 68 ∧ k = 32) → J3 a k = J a k := by
    by_cases h8 : J2 87 r = 0
    · rw [b8, if_pos h8, if_pos h8, b1, k_nd_nI (by omega), q2.id hh, q2.g12 ht, k_tn_nI (by have := q2.ln ht; omega)]
      obtain ⟨S', q3⟩ := sim_work q2 hr ht ((g2 _ _ (by omega) (by omega) (by omega)).trans et) hh ((g2 _ _ (by omega) (by omega) (by omega)).trans e81)
      refine ⟨S', _, _, rfl, rfl, q3, ?_, fun a k hak => ?_⟩
      · rw [← q3.g (pr_r5 (k := 8) hr (by decide) (by decide))]
        unfold k_co k_settle
        rw [x_up_ne (by omega), x_up_ne (by omega), x_up_eq ⟨rfl, rfl⟩]
        decide
      · rw [s_work_ne (by omega) (by omega), g2 _ _ (by omega) (by omega) (by omega)]
    · rw [b8, if_neg h8, if_neg h8]
      exact ⟨S, _, _, rfl, rfl, q2, h8, fun a k hak => g2 _ _ (by omega) (by omega) (by omega)⟩
  obtain ⟨S', I3, J3, x1, x2, q3, h87, g3⟩ := step3
  rw [x1, x2]
  clear x1 x2 b1 b8 g2 q2
  obtain ⟨⟨-, -, d2, d3, d4, d5, d6⟩, -⟩ := q3.1.2.2.2.2.1 r hr
  have b1 : I3 (101 + r) 1 = J 82 r := (q3.g (pr_r1 hr)).trans (g3 _ _ (by omega))
  have b10 : I3 (101 + r) 10 = J3 89 r := q3.g (pr_r10 hr)
  rw [g3 83 r (by omega)] at d3 d4 d5
  have e9 : (if I3 (101 + r) 9 = 0 then (64 : Int32) else 128) = (if J3 88 r = 0 then 128 else 64) := by
    have d6' := d6 h87
    by_cases h8 : J3 88 r = 0
    · rw [if_pos h8, if_neg (fun g => d6'.mp g h8)]
    · rw [if_neg h8, if_pos (d6'.mpr h8)]
  obtain ⟨q4, v4⟩ := q3.data (fa := 6) (ba := 7) (ty := 6) (to := nI h) (so := J 82 r) (sv := s_sv (J 83 r) + (if J3 88 r = 0 then 128 else 64)) (id := nI r) (ob := s_ob (J 83 r)) (le := s_lv (J 83 r)) (nu := J3 89 r) (Or.inr ⟨rfl, rfl, rfl⟩)
  have i4 : k_wn I3 (8 + 10 * h) (101 + r) = k_wd (k_wh I3 6 7 6 (nI h) (J 82 r) 8) 6 7 (s_sv (J 83 r) + (if J3 88 r = 0 then 128 else 64)) (nI r) (s_ob (J 83 r)) (s_lv (J 83 r)) (J3 89 r) := by
    unfold k_wn k_wn1
    rw [k_wh_ne (a := 101 + r) (by omega) (by omega), k_wh_ne (a := 101 + r) (by omega) (by omega), k_wh_ne (a := 101 + r) (by omega) (by omega), k_wh_ne (a := 101 + r) (by omega) (by omega), d2, d3, d4, d5, b10, b1, q3.id hh, e9]
  have j4 : s_a4 J3 (J 83 r) r (0 + 1) 68 32 = nI h := (s_lay_ne (by omega)).trans ((g3 _ _ (by omega)).trans e32)
  have j5 : s_a4 J3 (J 83 r) r (0 + 1) 82 r = J 82 r := (s_lay_ne (by omega)).trans (g3 _ _ (by omega))
  unfold s_a6 s_a5
  rw [i4, v4, j4, j5]
  refine ⟨S', 2, sim_tl (L := L) q4 hh ?_ (fun _ => ?_)⟩
  · rw [r_q_c (J := J) (fun j _ => ⟨?_, ?_⟩)]
    · exact hq
    · exact (s_caJ_ne (by omega) (by omega) (by omega)).trans ((s_lay_ne (by omega)).trans (g3 _ _ (by omega)))
    · exact (s_caJ_ne (by omega) (by omega) (by omega)).trans ((s_lay_ne (by omega)).trans (g3 _ _ (by omega)))
  · exact fun g => h87 (((s_caJ_ne (by omega) (by omega) (by omega)).trans (s_lay_ne (by omega))).symm.trans g)
end partBO
