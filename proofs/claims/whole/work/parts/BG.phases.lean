/-! the phases without data: alike -/
theorem x_up_comm {I : xI} {a k b j : Nat} {v w : Int32} (h : b ≠ a ∨ j ≠ k) : x_up (x_up I a k v) b j w = x_up (x_up I b j w) a k v := by
  funext c d
  by_cases h1 : c = b ∧ d = j
  · rw [x_up_eq h1, x_up_ne (by omega), x_up_eq h1]
  · rw [x_up_ne (b := c) (j := d) (a := b) (by omega)]
    by_cases h2 : c = a ∧ d = k
    · rw [x_up_eq h2, x_up_eq h2]
    · rw [x_up_ne (by omega), x_up_ne (by omega), x_up_ne (by omega)]
section partBG
variable {W : xI} {z : Nat} {I J : xI} {P : xP} {made S s f h p : Nat}
theorem St.ph (q : St W z I J P made S s f) {x : Nat} (hx : x = 0 ∨ x = 1 ∨ x = 3) : St W z (x_up I 1 6 (nI x)) (x_up J 68 33 (nI x)) P made S s f :=
  q.up (pr_sc (k := 6) (by decide) (by decide)) (by omega) (fun _ => by
    obtain ⟨g1, g2, g3, k, g4, g5, g6⟩ := q.1.2.2.1.2.2
    unfold r_rg
    rw [x_up_ne (j := 32) (by omega), x_up_eq (j := 33) ⟨rfl, rfl⟩, x_up_ne (j := 34) (by omega), x_up_ne (j := 35) (by omega)]
    refine ⟨g1, ⟨x, by omega, rfl⟩, g3, k, g4, g5, fun e => ?_⟩
    have := (nI_eq (a := x) (b := 2) (by omega) (by omega)).mp e
    omega) (fun c1 c2 => absurd c1 (by decide))
theorem St.ph2 (q : St W z I J P made S s f) {x : Nat} (hx : x ≤ 1) (e : J 68 35 = nI x) : St W z (x_up I 1 6 2) (x_up J 68 33 2) P made S s f :=
  q.up (pr_sc (k := 6) (by decide) (by decide)) (by omega) (fun _ => by
    obtain ⟨g1, g2, g3, k, g4, g5, g6⟩ := q.1.2.2.1.2.2
    unfold r_rg
    rw [x_up_ne (j := 32) (by omega), x_up_eq (j := 33) ⟨rfl, rfl⟩, x_up_ne (j := 34) (by omega), x_up_ne (j := 35) (by omega)]
    exact ⟨g1, ⟨2, by omega, rfl⟩, g3, x, by omega, e, fun _ => hx⟩) (fun c1 c2 => absurd c1 (by decide))
theorem St.s7 (q : St W z I J P made S s f) {x : Nat} (hx : x ≤ 2) : St W z (x_up I 1 7 (nI x)) (x_up J 68 34 (nI x)) P made S s f :=
  q.up (pr_sc (k := 7) (by decide) (by decide)) (by omega) (fun _ => by
    obtain ⟨g1, g2, g3, g4⟩ := q.1.2.2.1.2.2
    unfold r_rg
    rw [x_up_ne (j := 32) (by omega), x_up_ne (j := 33) (by omega), x_up_eq (j := 34) ⟨rfl, rfl⟩, x_up_ne (j := 35) (by omega)]
    exact ⟨g1, g2, ⟨x, hx, rfl⟩, g4⟩) (fun c1 c2 => absurd c1 (by decide))
theorem St.s8 (q : St W z I J P made S s f) {x : Nat} (hx : x ≤ 2) (hx2 : J 68 33 = 2 → x ≤ 1) : St W z (x_up I 1 8 (nI x)) (x_up J 68 35 (nI x)) P made S s f :=
  q.up (pr_sc (k := 8) (by decide) (by decide)) (by omega) (fun _ => by
    obtain ⟨g1, g2, g3, g4⟩ := q.1.2.2.1.2.2
    unfold r_rg
    rw [x_up_ne (j := 32) (by omega), x_up_ne (j := 33) (by omega), x_up_ne (j := 34) (by omega), x_up_eq (j := 35) ⟨rfl, rfl⟩]
    exact ⟨g1, g2, g3, x, hx, rfl, hx2⟩) (fun c1 c2 => absurd c1 (by decide))
theorem St.ho (q : St W z I J P made S s f) {v : Int32} (hv : v = -1 ∨ ∃ x, x < 6 ∧ v = nI x) : St W z (x_up I 1 5 v) (x_up J 68 32 v) P made S s f :=
  q.up (pr_sc (k := 5) (by decide) (by decide)) (by omega) (fun _ => by
    obtain ⟨g1, g2, g3, g4⟩ := q.1.2.2.1.2.2
    unfold r_rg
    rw [x_up_eq (j := 32) ⟨rfl, rfl⟩, x_up_ne (j := 33) (by omega), x_up_ne (j := 34) (by omega), x_up_ne (j := 35) (by omega)]
    exact ⟨hv, g2, g3, g4⟩) (fun c1 c2 => absurd c1 (by decide))
theorem St.tu (q : St W z I J P made S s f) : St W z (k_eu I) (s_tu J) P made S s f := (q.ph (x := 0) (by omega)).s7 (x := 0) (by omega)
theorem St.tp (q : St W z I J P made S s f) : St W z (k_ep I) (s_tp J) P made S s f := by
  unfold k_ep s_tp
  rw [x_up_comm (I := I) (by omega), x_up_comm (I := J) (by omega)]
  exact (q.s8 (x := 0) (by omega) (by omega)).ph2 (x := 0) (by omega) (x_up_eq ⟨rfl, rfl⟩)
/-- reads -/
theorem St.g (q : St W z I J P made S s f) {a k a' k' : Nat} (hp : pr made a k a' k') : I a k = J a' k' := q.1.2.1 a k a' k' hp
theorem St.id (q : St W z I J P made S s f) (hh : h < 6) : I (8 + 10 * h) 0 = nI h := (q.1.2.2.2.1 h hh).1
theorem St.g5 (q : St W z I J P made S s f) : I 1 5 = J 68 32 := q.g (pr_sc (k := 5) (by decide) (by decide))
theorem St.g6 (q : St W z I J P made S s f) : I 1 6 = J 68 33 := q.g (pr_sc (k := 6) (by decide) (by decide))
theorem St.g7 (q : St W z I J P made S s f) : I 1 7 = J 68 34 := q.g (pr_sc (k := 7) (by decide) (by decide))
theorem St.g8 (q : St W z I J P made S s f) : I 1 8 = J 68 35 := q.g (pr_sc (k := 8) (by decide) (by decide))
theorem St.g9 (q : St W z I J P made S s f) : I 1 9 = J 68 36 := q.g (pr_sc (k := 9) (by decide) (by decide))
theorem St.n5 (q : St W z I J P made S s f) (hh : h < 6) : I (8 + 10 * h) 5 = J 69 h := q.g (pr_nd (k := 5) hh (by decide) (by decide))
theorem St.n6 (q : St W z I J P made S s f) (hh : h < 6) : I (8 + 10 * h) 6 = J 70 h := q.g (pr_nd (k := 6) hh (by decide) (by decide))
theorem St.n7 (q : St W z I J P made S s f) (hh : h < 6) : I (8 + 10 * h) 7 = J 71 h := q.g (pr_nd (k := 7) hh (by decide) (by decide))
theorem St.n8 (q : St W z I J P made S s f) (hh : h < 6) : I (8 + 10 * h) 8 = J 72 h := q.g (pr_nd (k := 8) hh (by decide) (by decide))
theorem St.n9 (q : St W z I J P made S s f) (hh : h < 6) : I (8 + 10 * h) 9 = J 73 h := q.g (pr_nd (k := 9) hh (by decide) (by decide))
theorem St.x70 (q : St W z I J P made S s f) (hh : h < 6) : ∃ x, x < 6 ∧ J 70 h = nI x := (q.1.2.2.2.1 h hh).2.1.2.1
theorem St.x71 (q : St W z I J P made S s f) (hh : h < 6) : ∃ x, x < 6 ∧ J 71 h = nI x := (q.1.2.2.2.1 h hh).2.1.2.2.1
theorem r_beh : ∀ x, x < 6 → k_behind (nI x) = nI ((x + 1) % 6) ∧ s_beh (nI x) = nI ((x + 1) % 6) := by decide +kernel
theorem sim_join (q : St W z I J P made S s 0) (hh : h < 6) (e32 : J 68 32 = nI h) (hp : p < 6) : ∃ f, St W z (k_aj I (8 + 10 * h) (nI p)) (s_join (x_up J 71 h (nI p)) (nI p) s h) P made S s f := by
  have q1 := q.pn hh hp
  have e1 : x_up J 71 h (nI p) 68 32 = nI h := (x_up_ne (by omega)).trans e32
  obtain ⟨q2, v2⟩ := q1.carry (fa := 4) (ba := 5) (ty := 1) (to := nI p) (so := nI h) (Or.inl ⟨rfl, rfl, rfl⟩)
  have i1 : k_aj1 I (8 + 10 * h) (nI p) = k_wh (x_up I (8 + 10 * h) 7 (nI p)) 4 5 1 (nI p) (nI h) 0 := by
    unfold k_aj1
    rw [q1.id hh]
  have j1 : s_jn1 (x_up J 71 h (nI p)) (nI p) s = s_caJ (x_up J 71 h (nI p)) 0 s 1 (nI p) (nI h) 0 := by
    unfold s_jn1
    rw [e1]
  have e2 : s_caJ (x_up J 71 h (nI p)) 0 s 1 (nI p) (nI h) 0 68 32 = nI h := (s_caJ_ne (by omega) (by omega) (by omega)).trans e1
  unfold k_aj s_join
  rw [i1, e1, v2]
  by_cases h1 : s_caV (x_up J 71 h (nI p)) 0 s 1 (nI p) (nI h) 0 = 0
  · rw [if_pos h1, if_pos h1, j1]
    unfold k_aj2
    rw [i1]
    exact ⟨1, q2⟩
  rw [if_neg h1, if_neg h1]
  have i2 : k_aj2 I (8 + 10 * h) (nI p) = k_arI (k_wh (x_up I (8 + 10 * h) 7 (nI p)) 4 5 1 (nI p) (nI h) 0) 4 5 := by
    unfold k_aj2
    rw [i1]
  obtain ⟨q3, v3⟩ := q2.carry (fa := 6) (ba := 7) (ty := 2) (to := nI h) (so := nI p) (Or.inr ⟨rfl, rfl, rfl⟩)
  have i3 : k_aj3 I (8 + 10 * h) (nI p) = k_wh (k_arI (k_wh (x_up I (8 + 10 * h) 7 (nI p)) 4 5 1 (nI p) (nI h) 0) 4 5) 6 7 2 (nI h) (nI p) 0 := by
    unfold k_aj3
    rw [i2, q2.id hh]
  have j2 : s_jn2 (x_up J 71 h (nI p)) (nI p) s = s_caJ (s_caJ (x_up J 71 h (nI p)) 0 s 1 (nI p) (nI h) 0) 1 s 2 (nI h) (nI p) 0 := by
    unfold s_jn2
    rw [j1, e2]
  have e3 : s_caJ (s_caJ (x_up J 71 h (nI p)) 0 s 1 (nI p) (nI h) 0) 1 s 2 (nI h) (nI p) 0 68 32 = nI h := (s_caJ_ne (by omega) (by omega) (by omega)).trans e2
  unfold k_aj4
  rw [i3, j1, e2, j2, v3]
  by_cases h2 : s_caV (s_caJ (x_up J 71 h (nI p)) 0 s 1 (nI p) (nI h) 0) 1 s 2 (nI h) (nI p) 0 = 0
  · rw [if_pos h2, if_pos h2]
    exact ⟨2, q3⟩
  rw [if_neg h2, if_neg h2]
  have q4 := q3.nx hh hp
  rw [q4.id hh, x_up_ne (a := 70) (by omega), e3]
  exact ⟨2, q4.pn hh hh⟩
theorem sim_pass (q : St W z I J P made S s 0) (hh : h < 6) (e33 : J 68 33 = 2) : ∃ f, St W z (k_ps I (8 + 10 * h)) (s_pass J s h) P made S s f := by
  obtain ⟨x, hx, ex⟩ := q.x70 hh
  obtain ⟨q2, v2⟩ := q.carry (fa := 4) (ba := 5) (ty := 0) (to := J 70 h) (so := nI h) (Or.inl ⟨rfl, rfl, rfl⟩)
  have i1 : k_ps1 I (8 + 10 * h) = k_wh I 4 5 0 (J 70 h) (nI h) 0 := by
    unfold k_ps1
    rw [q.id hh, q.n6 hh]
  have j33 : s_caJ J 0 s 0 (J 70 h) (nI h) 0 68 33 = 2 := (s_caJ_ne (by omega) (by omega) (by omega)).trans e33
  have j70 : s_caJ J 0 s 0 (J 70 h) (nI h) 0 70 h = nI x := (s_caJ_ne (by omega) (by omega) (by omega)).trans ex
  have p1 : s_p1 J s h = s_caJ J 0 s 0 (J 70 h) (nI h) 0 := rfl
  unfold k_ps k_ps4 k_ps5 k_ps3 k_ps2 s_pass s_p4 s_p3 s_p2 s_p5
  rw [i1, v2, p1]
  generalize hI' : k_arI (k_wh I 4 5 0 (J 70 h) (nI h) 0) 4 5 = I' at q2 ⊢
  generalize hJ' : s_caJ J 0 s 0 (J 70 h) (nI h) 0 = J' at q2 j33 j70 ⊢
  by_cases h1 : s_caV J 0 s 0 (J 70 h) (nI h) 0 = 0
  · rw [if_pos h1, if_pos h1]
    obtain ⟨k, hk, e35, hk2⟩ := q2.1.2.2.1.2.2.2.2.2
    have hk1 := hk2 j33
    rw [q2.g8, e35, nI_1, x_up_eq ⟨rfl, rfl⟩, x_up_eq ⟨rfl, rfl⟩]
    rcases (show k = 0 ∨ k = 1 by omega) with rfl | rfl
    · rw [if_pos (by decide), if_neg (by decide)]
      exact ⟨1, q2.s8 (x := 1) (by omega) (by omega)⟩
    · rw [if_neg (by decide), if_pos (by decide)]
      have q3 : St W z (x_up (x_up I' 1 8 (nI 2)) 1 6 3) (x_up (x_up J' 68 35 (nI 2)) 68 33 3) P made S s 1 := by
        rw [x_up_comm (I := I') (by omega), x_up_comm (I := J') (by omega)]
        exact (q2.ph (x := 3) (by omega)).s8 (x := 2) (by omega) (fun e => by rw [x_up_eq ⟨rfl, rfl⟩] at e; exact absurd e (by decide))
      have e7 : x_up (x_up J' 68 35 (nI 2)) 68 33 3 70 h = nI x := by rw [x_up_ne (by omega), x_up_ne (by omega), j70]
      have q4 := q3.pn hh hx
      show ∃ f, St W z (x_up (x_up (x_up (x_up I' 1 8 (nI 2)) 1 6 3) (8 + 10 * h) 7 (x_up (x_up I' 1 8 (nI 2)) 1 6 3 (8 + 10 * h) 6)) (8 + 10 * h) 6 (x_up (x_up (x_up I' 1 8 (nI 2)) 1 6 3) (8 + 10 * h) 7 (x_up (x_up I' 1 8 (nI 2)) 1 6 3 (8 + 10 * h) 6) (8 + 10 * h) 0)) (x_up (x_up (x_up (x_up J' 68 35 (nI 2)) 68 33 3) 71 h (x_up (x_up J' 68 35 (nI 2)) 68 33 3 70 h)) 70 h (nI h)) P made S s f
      rw [q3.n6 hh, e7, q4.id hh]
      exact ⟨1, q4.nx hh hh⟩
  · rw [if_neg h1, if_neg h1]
    have q3 : St W z (x_up I' 1 5 (nI x)) (x_up J' 68 32 (nI x)) P made S s 1 := q2.ho (Or.inr ⟨x, hx, rfl⟩)
    have e8 : x_up I' 1 5 (nI x) (8 + 10 * h) 6 = nI x := by
      rw [q3.n6 hh, x_up_ne (by omega), j70]
    rw [q2.n6 hh, j70, e8, ex, k_nd_nI (by omega), k_tn_nI (by omega)]
    unfold k_gt
    have q4 := q3.f8 (n := x) (v := x_up J' 68 32 (nI x) 72 x + 1) hx
    rw [q3.n8 hx, q4.n9 hx]
    exact ⟨1, (q4.f9 hx).tu⟩
theorem sim_poll (q : St W z I J P made S s 0) (hh : h < 6) (e32 : J 68 32 = nI h) : ∃ f, St W z (if k_poV I (8 + 10 * h) = 0 then k_poI I (8 + 10 * h) else k_ps (k_poI I (8 + 10 * h)) (8 + 10 * h)) (s_poll J s h) P made S s f := by
  have q1 := q.f8 (n := h) (v := 0) hh
  obtain ⟨x, hx, ex⟩ := q1.x70 hh
  obtain ⟨y, hy, ey⟩ := q1.x71 hh
  have e1 : x_up J 72 h 0 68 32 = nI h := (x_up_ne (by omega)).trans e32
  obtain ⟨pn, hpn, ep, ep2⟩ : ∃ pn, pn < 6 ∧ k_pp I (8 + 10 * h) = nI pn ∧ s_pp (x_up J 72 h 0) h = nI pn := by
    unfold k_pp s_pp
    rw [q1.n7 hh, q1.n6 hh, q1.id hh, ex, ey, (r_beh y hy).1, (r_beh y hy).2, (r_beh h hh).1, (r_beh h hh).2]
    by_cases hc : nI ((y + 1) % 6) = nI x
    · exact ⟨(h + 1) % 6, by omega, if_pos hc, if_pos hc⟩
    · exact ⟨(y + 1) % 6, by omega, if_neg hc, if_neg hc⟩
  unfold k_poV k_poI s_poll s_po1 s_po2
  rw [ep, ep2, q1.n6 hh]
  by_cases hc : nI pn = x_up J 72 h 0 70 h
  · rw [if_pos hc, if_neg (by decide), if_pos hc, if_pos hc]
    exact sim_pass q1.tp hh ((x_up_ne (by omega)).trans (x_up_eq ⟨rfl, rfl⟩))
  · rw [if_neg hc, if_pos rfl, if_neg hc, if_neg hc]
    obtain ⟨f, q2⟩ := sim_join q1 hh e1 hpn
    rw [q2.n6 hh, q2.id hh]
    by_cases hd : s_join (x_up (x_up J 72 h 0) 71 h (nI pn)) (nI pn) s h 70 h = nI h
    · rw [if_pos hd, if_pos hd]
      exact ⟨f, q2.tu⟩
    · rw [if_neg hd, if_neg hd]
      exact ⟨f, q2.tp⟩
theorem sim_sear (q : St W z I J P made S s 0) (hh : h < 6) (e32 : J 68 32 = nI h) : ∃ f, St W z (k_se I (8 + 10 * h)) (s_sear J s h) P made S s f := by
  obtain ⟨y, hy, ey⟩ := q.x71 hh
  unfold k_se s_sear s_se2
  rw [q.n7 hh, q.id hh, ey, (r_beh y hy).1, (r_beh y hy).2]
  by_cases hc : nI ((y + 1) % 6) = nI h
  · rw [if_pos hc, if_pos hc]
    exact ⟨0, q.tu⟩
  · rw [if_neg hc, if_neg hc]
    obtain ⟨f, q2⟩ := sim_join q hh e32 (show (y + 1) % 6 < 6 by omega)
    rw [q2.n6 hh]
    by_cases hd : s_join (x_up J 71 h (nI ((y + 1) % 6))) (nI ((y + 1) % 6)) s h 70 h = nI ((y + 1) % 6)
    · rw [if_pos hd, if_pos hd]
      exact ⟨f, q2.tp⟩
    · rw [if_neg hd, if_neg hd]
      exact ⟨f, q2⟩
theorem sim_after1 (q : St W z I J P made S s 0) (hh : h < 6) (e32 : J 68 32 = nI h) (e33 : J 68 33 = 1) : ∃ f, St W z (k_after I (8 + 10 * h)) (s_poll J s h) P made S s f := by
  unfold k_after
  rw [q.g6, if_pos e33]
  exact sim_poll q hh e32
theorem sim_after2 (q : St W z I J P made S s 0) (hh : h < 6) (e33 : J 68 33 = 2) : ∃ f, St W z (k_after I (8 + 10 * h)) (s_pass J s h) P made S s f := by
  unfold k_after
  rw [q.g6, e33, if_neg (by decide)]
  exact sim_pass q hh e33
theorem sim_utl (q : St W z I J P made S s 0) (hh : h < 6) (e32 : J 68 32 = nI h) : ∃ f, St W z (k_after (k_ut I (8 + 10 * h)) (8 + 10 * h)) (s_utl J s h) P made S s f := by
  have qa := q.ph (x := 1) (by omega)
  have r1 := sim_after1 qa hh ((x_up_ne (by omega)).trans e32) (x_up_eq ⟨rfl, rfl⟩)
  unfold k_ut s_utl
  rw [q.n8 hh, q.n6 hh, q.id hh, e32]
  by_cases h1 : 3 ≤ J 72 h
  · rw [if_pos h1, if_pos h1]
    exact r1
  · rw [if_neg h1, if_neg h1]
    by_cases h2 : J 70 h = nI h
    · rw [if_pos h2, if_pos h2]
      exact r1
    · rw [if_neg h2, if_neg h2]
      exact sim_after2 q.tp hh ((x_up_ne (by omega)).trans (x_up_eq ⟨rfl, rfl⟩))
theorem sim_lis (q : St W z I J P made S s 0) : St W z (k_ws I) (s_lis J) P made S s 0 := by
  have q1 : St W z (k_si I) (x_up J 68 36 (J 68 36 + 1)) P made S s 0 := by
    unfold k_si
    rw [q.g9]
    exact q.s9
  unfold k_ws s_lis
  rw [q1.g9]
  generalize k_si I = I1 at q1 ⊢
  generalize x_up J 68 36 (J 68 36 + 1) = J1 at q1 ⊢
  have key : ∀ n m, m + n = 6 → (k_lp I1 n m = -1 ∧ s_li J1 n m = J1) ∨ ∃ x, x < 6 ∧ k_lp I1 n m = nI x ∧ s_li J1 n m = (if J1 68 36 < 4 + 2 * nI x then J1 else s_lh J1 x) := by
    intro n
    induction n with
    | zero => exact fun m _ => Or.inl ⟨rfl, rfl⟩
    | succ n ih =>
      intro m hm
      unfold k_lp s_li
      rw [q1.n5 (show m < 6 by omega)]
      by_cases hc : J1 69 m = 0
      · rw [if_pos hc, if_pos hc]
        exact ih (m + 1) (by omega)
      · rw [if_neg hc, if_neg hc]
        exact Or.inr ⟨m, by omega, rfl, rfl⟩
  rcases key 6 0 rfl with ⟨e1, e2⟩ | ⟨x, hx, e1, e2⟩
  · rw [e1, e2, if_pos rfl]
    exact q1
  · rw [e1, e2, if_neg (nI_nm1 (by omega))]
    by_cases hc : J1 68 36 < 4 + 2 * nI x
    · rw [if_pos hc, if_neg (fun g => by rw [Int32.le_iff_toInt_le] at g; rw [Int32.lt_iff_toInt_lt] at hc; omega)]
      exact q1
    · rw [if_neg hc, if_pos (by rw [Int32.le_iff_toInt_le]; rw [Int32.lt_iff_toInt_lt] at hc; omega), k_nd_nI (by omega)]
      have q2 := q1.ho (Or.inr ⟨x, hx, rfl⟩)
      have q3 := q2.nx hx hx
      unfold k_fo s_lh
      rw [q2.id hx, q3.id hx]
      exact (((q3.pn hx hx).ph (x := 3) (by omega)).s9)
end partBG
