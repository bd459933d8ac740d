theorem r_sc_d {I I' J J' : xI} {made : Nat} (h : r_sc I J made) (hI : ∀ j, 4 ≤ j → I' 1 j = I 1 j) (hJ : ∀ j, (j = 12 ∨ (32 ≤ j ∧ j ≤ 39)) → J' 68 j = J 68 j) : r_sc I' J' made := by
  unfold r_sc
  rw [hI 4 (by omega), hI 5 (by omega), hI 6 (by omega), hI 7 (by omega), hI 8 (by omega), hI 9 (by omega), hI 10 (by omega), hI 11 (by omega), hI 12 (by omega), hJ 12 (by omega), hJ 32 (by omega), hJ 33 (by omega), hJ 34 (by omega), hJ 35 (by omega), hJ 36 (by omega), hJ 37 (by omega), hJ 38 (by omega), hJ 39 (by omega)]
  exact h
theorem r_rg_d {J J' : xI} (h : r_rg J) (hJ : ∀ j, (32 ≤ j ∧ j ≤ 35) → J' 68 j = J 68 j) : r_rg J' := by
  unfold r_rg
  rw [hJ 32 (by omega), hJ 33 (by omega), hJ 34 (by omega), hJ 35 (by omega)]
  exact h
theorem k_tune_ne {I : xI} {l a k : Nat} {p i : Int32} (h : a ≠ l ∨ (k ≠ 1 ∧ k ≠ 2 ∧ k ≠ 3)) : k_tune I l p i a k = I a k := by
  unfold k_tune
  rw [x_up_ne (by omega), x_up_ne (by omega), x_up_ne (by omega)]
def s_ga3 (J : xI) (j : Nat) (p i : Int32) : xI := x_up (x_up (x_up J 76 j p) 77 j i) 78 j 0
theorem s_ga3_ne {J : xI} {j a k : Nat} {p i : Int32} (h : (a ≠ 76 ∧ a ≠ 77 ∧ a ≠ 78) ∨ k ≠ j) : s_ga3 J j p i a k = J a k := by
  unfold s_ga3
  rw [x_up_ne (by omega), x_up_ne (by omega), x_up_ne (by omega)]
def k_so3 (I : xI) (w : Nat) (a m : Int32) : xI := if w = 0 then x_up (x_up (k_fs I) 4 2 a) 4 3 m else x_up (x_up (k_fs I) 6 2 a) 6 3 m
theorem k_fs_ne {I : xI} {a k : Nat} (h : (a ≠ 4 ∧ a ≠ 6) ∨ k ≠ 3) : k_fs I a k = I a k := by
  unfold k_fs
  rw [x_up_ne (by omega), x_up_ne (by omega)]
theorem k_so3_ne {I : xI} {w a k : Nat} {at_ m : Int32} (h : (a ≠ 4 ∧ a ≠ 6) ∨ (k ≠ 2 ∧ k ≠ 3)) : k_so3 I w at_ m a k = I a k := by
  unfold k_so3
  by_cases hw : w = 0
  · rw [if_pos hw, x_up_ne (by omega), x_up_ne (by omega), k_fs_ne (by omega)]
  · rw [if_neg hw, x_up_ne (by omega), x_up_ne (by omega), k_fs_ne (by omega)]
def s_so3 (J : xI) (w a m : Int32) : xI := x_up (x_up (x_up J 68 42 w) 68 43 a) 68 44 m
theorem s_so3_ne {J : xI} {a k : Nat} {w at_ m : Int32} (h : a ≠ 68 ∨ (k ≠ 42 ∧ k ≠ 43 ∧ k ≠ 44)) : s_so3 J w at_ m a k = J a k := by
  unfold s_so3
  rw [x_up_ne (by omega), x_up_ne (by omega), x_up_ne (by omega)]
theorem pr_t {I I' J J' : xI} {b j b' j' : Nat} (h : I b j = J b' j') (h1 : I' b j = I b j) (h2 : J' b' j' = J b' j') : I' b j = J' b' j' := h1.trans (h.trans h2.symm)
theorem sim_gains {z : Nat} {I J : xI} {P : xP} {made S : Nat} (h : Rel z I J P made S) (n p i : Int32) : k_gaV n p i = s_gaV n p i ∧ Rel z (k_gaI I n p i) (s_gaJ J n p i) P made S := by
  have hd1 := r_out p 0 100
  have hd2 := r_out i 0 100
  unfold k_gaV s_gaV k_gaI s_gaJ
  rw [r_isN]
  by_cases hN : s_isN n = 0
  · simp only [if_pos hN]
    exact ⟨trivial, h⟩
  simp only [if_neg hN]
  by_cases ho : s_out p 0 100 = 0
  · have hw : ¬ k_within p 0 100 = 0 := fun q => hd1.mp q ho
    simp only [if_neg hw, if_pos ho]
    by_cases ho2 : s_out i 0 100 = 0
    · have hw2 : ¬ k_within i 0 100 = 0 := fun q => hd2.mp q ho2
      simp only [if_neg hw2, if_pos ho2]
      refine ⟨trivial, ?_⟩
      obtain ⟨jn, hj, e⟩ := s_isN_ix hN
      subst e
      rw [k_nd_nI hj, k_tn_nI (by omega)]
      show Rel z (k_tune I (8 + 10 * jn + 4) p i) (s_ga3 J jn p i) P made S
      obtain ⟨h1, ⟨h2, h3⟩, h4, ⟨h5, h6⟩, h7, h8, h9⟩ := h
      refine ⟨h1, ⟨r_sc_d h2 (fun j _ => k_tune_ne (by omega)) (fun j _ => s_ga3_ne (by omega)), r_rg_d h3 (fun j _ => s_ga3_ne (by omega))⟩, fun m9 hm => ?_, ⟨fun r hr => ⟨r_rq_c (h5 r hr).1 (fun j => k_tune_ne (by omega)) (fun a _ _ => s_ga3_ne (by omega)), r_rr_c (h5 r hr).2 (fun a _ _ => s_ga3_ne (by omega))⟩, r_r0_c h6 (fun a j _ _ => s_ga3_ne (by omega))⟩, r_sr_c h7 (s_ga3_ne (by omega)) (fun j => ⟨s_ga3_ne (by omega), s_ga3_ne (by omega), s_ga3_ne (by omega), s_ga3_ne (by omega), s_ga3_ne (by omega)⟩), r_fr_c h8 (fun a j _ _ _ => k_tune_ne (by omega)) (fun a j _ _ => s_ga3_ne (by omega)), r_sp_c h9 (fun j => ⟨k_tune_ne (by omega), k_tune_ne (by omega)⟩) (fun j => s_ga3_ne (by omega))⟩
      obtain ⟨a1, a2, a3, a4, a5, a6⟩ := h4 m9 hm
      have q4 : r_ou ((k_tune I (8 + 10 * jn + 4) p i)) ((s_ga3 J jn p i)) m9 := r_ou_c a4 (fun j => ⟨k_tune_ne (by omega), k_tune_ne (by omega)⟩) (fun j => ⟨s_ga3_ne (by omega), s_ga3_ne (by omega)⟩)
      have q5 : r_qu ((k_tune I (8 + 10 * jn + 4) p i)) ((s_ga3 J jn p i)) P made m9 := r_qu_c a5 (k_tune_ne (by omega)) (fun j _ => ⟨s_ga3_ne (by omega), s_ga3_ne (by omega)⟩)
      have q6 : r_sb ((k_tune I (8 + 10 * jn + 4) p i)) ((s_ga3 J jn p i)) S m9 := r_sb_c a6 hm (fun a k _ _ => k_tune_ne (by omega)) (k_tune_ne (by omega)) (fun j => ⟨s_ga3_ne (by omega), s_ga3_ne (by omega), s_ga3_ne (by omega), s_ga3_ne (by omega), s_ga3_ne (by omega)⟩)
      have q1 : r_nd (k_tune I (8 + 10 * jn + 4) p i) (s_ga3 J jn p i) m9 := by
        obtain ⟨b1, b2, b3, b4, b5, b6, b7, b8, b9, b10, b11⟩ := a1
        exact ⟨(k_tune_ne (by omega)).trans b1, pr_t b2 (k_tune_ne (by omega)) (s_ga3_ne (by omega)), pr_t b3 (k_tune_ne (by omega)) (s_ga3_ne (by omega)), pr_t b4 (k_tune_ne (by omega)) (s_ga3_ne (by omega)), pr_t b5 (k_tune_ne (by omega)) (s_ga3_ne (by omega)), pr_t b6 (k_tune_ne (by omega)) (s_ga3_ne (by omega)), pr_t b7 (k_tune_ne (by omega)) (s_ga3_ne (by omega)), pr_t b8 (k_tune_ne (by omega)) (s_ga3_ne (by omega)), pr_t b9 (k_tune_ne (by omega)) (s_ga3_ne (by omega)), pr_t b10 (k_tune_ne (by omega)) (s_ga3_ne (by omega)), pr_t b11 (k_tune_ne (by omega)) (s_ga3_ne (by omega))⟩
      have q2 : r_lo (k_tune I (8 + 10 * jn + 4) p i) (s_ga3 J jn p i) m9 := by
        obtain ⟨b1, b2, b3, b4⟩ := a2
        by_cases hmj : m9 = jn
        · subst hmj
          refine ⟨pr_t b1 (k_tune_ne (by omega)) (s_ga3_ne (by omega)), ?_, ?_, ?_⟩
          · unfold k_tune s_ga3
            rw [x_up_ne (by omega), x_up_ne (by omega), x_up_eq ⟨rfl, rfl⟩, x_up_ne (by omega), x_up_ne (by omega), x_up_eq ⟨rfl, rfl⟩]
          · unfold k_tune s_ga3
            rw [x_up_ne (by omega), x_up_eq ⟨rfl, rfl⟩, x_up_ne (by omega), x_up_eq ⟨rfl, rfl⟩]
          · unfold k_tune s_ga3
            rw [x_up_eq ⟨rfl, rfl⟩, x_up_eq ⟨rfl, rfl⟩]
        · exact ⟨pr_t b1 (k_tune_ne (by omega)) (s_ga3_ne (by omega)), pr_t b2 (k_tune_ne (by omega)) (s_ga3_ne (by omega)), pr_t b3 (k_tune_ne (by omega)) (s_ga3_ne (by omega)), pr_t b4 (k_tune_ne (by omega)) (s_ga3_ne (by omega))⟩
      have q3 : r_nr (s_ga3 J jn p i) m9 := by
        by_cases hmj : m9 = jn
        · subst hmj
          obtain ⟨b1, b2, b3, b4, b5, b6, b7, b8⟩ := a3
          unfold r_nr
          rw [s_ga3_ne (a := 69) (by omega), s_ga3_ne (a := 70) (by omega), s_ga3_ne (a := 71) (by omega), s_ga3_ne (a := 74) (by omega), s_ga3_ne (a := 75) (by omega)]
          refine ⟨b1, b2, b3, b4, b5, ?_, ?_, ?_⟩
          · unfold s_ga3
            rw [x_up_ne (by omega), x_up_ne (by omega), x_up_eq ⟨rfl, rfl⟩]
            exact ho
          · unfold s_ga3
            rw [x_up_ne (by omega), x_up_eq ⟨rfl, rfl⟩]
            exact ho2
          · unfold s_ga3
            rw [x_up_eq ⟨rfl, rfl⟩]
            decide
        · exact r_nr_c a3 (fun a _ _ => s_ga3_ne (by omega))
      exact ⟨q1, q2, q3, q4, q5, q6⟩
    · have hw2 : k_within i 0 100 = 0 := hd2.mpr ho2
      simp only [if_pos hw2, if_neg ho2]
      exact ⟨trivial, h⟩
  · have hw : k_within p 0 100 = 0 := hd1.mpr ho
    simp only [if_pos hw, if_neg ho]
    exact ⟨trivial, h⟩
theorem sim_spoil {z : Nat} {I J : xI} {P : xP} {made S : Nat} (h : Rel z I J P made S) (w a m : Int32) : k_soV w a m = s_soV w a m ∧ Rel z (k_soI I w a m) (s_soJ J w a m) P made S := by
  have hd1 := r_out w 0 1
  have hd2 := r_out a 0 17
  have hd3 := r_out m 1 255
  unfold k_soV s_soV k_soI s_soJ
  by_cases ho : s_out w 0 1 = 0
  · have hw : ¬ k_within w 0 1 = 0 := fun q => hd1.mp q ho
    simp only [if_neg hw, if_pos ho]
    by_cases ho2 : s_out a 0 17 = 0
    · have hw2 : ¬ k_within a 0 17 = 0 := fun q => hd2.mp q ho2
      simp only [if_neg hw2, if_pos ho2]
      by_cases ho3 : s_out m 1 255 = 0
      · have hw3 : ¬ k_within m 1 255 = 0 := fun q => hd3.mp q ho3
        simp only [if_neg hw3, if_pos ho3]
        refine ⟨trivial, ?_⟩
        obtain ⟨wn, -, hwn, rfl⟩ := s_out_ix (A := 0) (B := 1) (by decide) (by decide) ho
        obtain ⟨an, -, han, rfl⟩ := s_out_ix (A := 0) (B := 17) (by decide) (by decide) ho2
        obtain ⟨mn, -, hmn, rfl⟩ := s_out_ix (A := 1) (B := 255) (by decide) (by decide) ho3
        have eI : (if nI wn = 0 then x_up (x_up (k_fs I) 4 2 (nI an)) 4 3 (nI mn) else x_up (x_up (k_fs I) 6 2 (nI an)) 6 3 (nI mn)) = k_so3 I wn (nI an) (nI mn) := by
          unfold k_so3
          rcases (show wn = 0 ∨ wn = 1 by omega) with rfl | rfl
          · rw [if_pos (by decide), if_pos rfl]
          · rw [if_neg (by decide), if_neg (by decide)]
        rw [eI]
        show Rel z (k_so3 I wn (nI an) (nI mn)) (s_so3 J (nI wn) (nI an) (nI mn)) P made S
        obtain ⟨h1, ⟨h2, h3⟩, h4, ⟨h5, h6⟩, h7, h8, h9⟩ := h
        refine ⟨h1, ⟨r_sc_d h2 (fun j _ => k_so3_ne (by omega)) (fun j _ => s_so3_ne (by omega)), r_rg_d h3 (fun j _ => s_so3_ne (by omega))⟩, fun m9 hm => ?_, ⟨fun r hr => ⟨r_rq_c (h5 r hr).1 (fun j => k_so3_ne (by omega)) (fun a _ _ => s_so3_ne (by omega)), r_rr_c (h5 r hr).2 (fun a _ _ => s_so3_ne (by omega))⟩, r_r0_c h6 (fun a j _ _ => s_so3_ne (by omega))⟩, r_sr_c h7 (s_so3_ne (by omega)) (fun j => ⟨s_so3_ne (by omega), s_so3_ne (by omega), s_so3_ne (by omega), s_so3_ne (by omega), s_so3_ne (by omega)⟩), r_fr_c h8 (fun a j _ _ _ => k_so3_ne (by omega)) (fun a j _ _ => s_so3_ne (by omega)), (by
          obtain ⟨w0, s, mk, s0, s1, c1, c2, c3, c4, c5, d1, d2, d3, d4, d5, d6, d7, d8, d9⟩ := h9
          have e2 : s_so3 J (nI wn) (nI an) (nI mn) 68 44 = nI mn := x_up_eq ⟨rfl, rfl⟩
          have e3 : s_so3 J (nI wn) (nI an) (nI mn) 68 43 = nI an := (x_up_ne (by omega)).trans (x_up_eq ⟨rfl, rfl⟩)
          have e4 : s_so3 J (nI wn) (nI an) (nI mn) 68 42 = nI wn := (x_up_ne (by omega)).trans ((x_up_ne (by omega)).trans (x_up_eq ⟨rfl, rfl⟩))
          rcases (show wn = 0 ∨ wn = 1 by omega) with rfl | rfl
          · have ek : k_so3 I 0 (nI an) (nI mn) = x_up (x_up (k_fs I) 4 2 (nI an)) 4 3 (nI mn) := if_pos rfl
            refine ⟨0, an, mn, an, s1, by omega, by omega, by omega, by omega, c5, e4, e3, e2, ?_, ?_, ?_, ?_, fun _ => Or.inr rfl, fun q => absurd q (by decide)⟩
            · rw [ek, x_up_ne (by omega), x_up_eq ⟨rfl, rfl⟩]
            · rw [ek, x_up_ne (by omega), x_up_ne (by omega), k_fs_ne (by omega), d5]
            · rw [ek, x_up_eq ⟨rfl, rfl⟩, if_pos rfl]
            · rw [ek, x_up_ne (by omega), x_up_ne (by omega), if_neg (by decide)]
              exact x_up_eq ⟨rfl, rfl⟩
          · have ek : k_so3 I 1 (nI an) (nI mn) = x_up (x_up (k_fs I) 6 2 (nI an)) 6 3 (nI mn) := if_neg (by decide)
            refine ⟨1, an, mn, s0, an, by omega, by omega, by omega, c4, by omega, e4, e3, e2, ?_, ?_, ?_, ?_, fun q => absurd q (by decide), fun _ => Or.inr rfl⟩
            · rw [ek, x_up_ne (by omega), x_up_ne (by omega), k_fs_ne (by omega), d4]
            · rw [ek, x_up_ne (by omega), x_up_eq ⟨rfl, rfl⟩]
            · rw [ek, x_up_ne (by omega), x_up_ne (by omega), if_neg (by decide)]
              exact (x_up_ne (by omega)).trans (x_up_eq ⟨rfl, rfl⟩)
            · rw [ek, x_up_eq ⟨rfl, rfl⟩, if_pos rfl])⟩
        obtain ⟨a1, a2, a3, a4, a5, a6⟩ := h4 m9 hm
        have q4 : r_ou ((k_so3 I wn (nI an) (nI mn))) ((s_so3 J (nI wn) (nI an) (nI mn))) m9 := r_ou_c a4 (fun j => ⟨k_so3_ne (by omega), k_so3_ne (by omega)⟩) (fun j => ⟨s_so3_ne (by omega), s_so3_ne (by omega)⟩)
        have q5 : r_qu ((k_so3 I wn (nI an) (nI mn))) ((s_so3 J (nI wn) (nI an) (nI mn))) P made m9 := r_qu_c a5 (k_so3_ne (by omega)) (fun j _ => ⟨s_so3_ne (by omega), s_so3_ne (by omega)⟩)
        have q6 : r_sb ((k_so3 I wn (nI an) (nI mn))) ((s_so3 J (nI wn) (nI an) (nI mn))) S m9 := r_sb_c a6 hm (fun a k _ _ => k_so3_ne (by omega)) (k_so3_ne (by omega)) (fun j => ⟨s_so3_ne (by omega), s_so3_ne (by omega), s_so3_ne (by omega), s_so3_ne (by omega), s_so3_ne (by omega)⟩)
        have q1 : r_nd (k_so3 I wn (nI an) (nI mn)) (s_so3 J (nI wn) (nI an) (nI mn)) m9 := by
          obtain ⟨b1, b2, b3, b4, b5, b6, b7, b8, b9, b10, b11⟩ := a1
          exact ⟨(k_so3_ne (by omega)).trans b1, pr_t b2 (k_so3_ne (by omega)) (s_so3_ne (by omega)), pr_t b3 (k_so3_ne (by omega)) (s_so3_ne (by omega)), pr_t b4 (k_so3_ne (by omega)) (s_so3_ne (by omega)), pr_t b5 (k_so3_ne (by omega)) (s_so3_ne (by omega)), pr_t b6 (k_so3_ne (by omega)) (s_so3_ne (by omega)), pr_t b7 (k_so3_ne (by omega)) (s_so3_ne (by omega)), pr_t b8 (k_so3_ne (by omega)) (s_so3_ne (by omega)), pr_t b9 (k_so3_ne (by omega)) (s_so3_ne (by omega)), pr_t b10 (k_so3_ne (by omega)) (s_so3_ne (by omega)), pr_t b11 (k_so3_ne (by omega)) (s_so3_ne (by omega))⟩
        exact ⟨q1, ⟨pr_t a2.1 (k_so3_ne (by omega)) (s_so3_ne (by omega)), pr_t a2.2.1 (k_so3_ne (by omega)) (s_so3_ne (by omega)), pr_t a2.2.2.1 (k_so3_ne (by omega)) (s_so3_ne (by omega)), pr_t a2.2.2.2 (k_so3_ne (by omega)) (s_so3_ne (by omega))⟩, r_nr_c a3 (fun a _ _ => s_so3_ne (by omega)), q4, q5, q6⟩
      · have hw3 : k_within m 1 255 = 0 := hd3.mpr ho3
        simp only [if_pos hw3, if_neg ho3]
        exact ⟨trivial, h⟩
    · have hw2 : k_within a 0 17 = 0 := hd2.mpr ho2
      simp only [if_pos hw2, if_neg ho2]
      exact ⟨trivial, h⟩
  · have hw : k_within w 0 1 = 0 := hd1.mpr ho
    simp only [if_pos hw, if_neg ho]
    exact ⟨trivial, h⟩
