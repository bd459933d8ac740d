/-! the answers of the reading calls are the model's -/
theorem nI_nm1 {h : Nat} (hh : h < 2 ^ 31) : ¬ nI h = -1 := fun e => by
  have h1 := nI_pos' hh
  rw [e] at h1
  exact absurd h1 (by decide)
section partB2
variable {z : Nat} {I J : xI} {P : xP} {made S : Nat}
theorem e_holder (h : Rel z I J P made S) : I 1 5 = J 68 32 := h.2.1.1.2.2.1
theorem e_phase (h : Rel z I J P made S) : k_ph I = s_phV J := by
  obtain ⟨-, ⟨hs, hr⟩, -⟩ := h
  unfold k_ph s_phV
  rw [hs.2.2.1, hs.2.2.2.1]
  rcases hr.1 with e | ⟨x, hx, e⟩
  · rw [e, if_pos rfl, if_neg (by decide)]
  · rw [e, if_neg (nI_nm1 (by omega)), if_pos (nI_pos' (by omega))]
theorem e_total (h : Rel z I J P made S) (w : Int32) : k_toV I w = s_toV J w := by
  obtain ⟨-, ⟨hs, -⟩, -⟩ := h
  obtain ⟨a1, a2, a3, a4, a5, a6, a7, a8, a9, a10⟩ := hs
  unfold k_toV s_toV
  rw [a8, a10, a1, a2, a7]
theorem r_node_cases {n : Int32} {α : Sort _} (a b : α) {v w : α} (h0 : a = b) (h1 : ∀ j, j ≤ 5 → n = nI j → v = w) : (if k_within n 0 5 = 0 then a else v) = (if s_isN n = 0 then b else w) := by
  rw [r_isN]
  by_cases hc : s_isN n = 0
  · rw [if_pos hc, if_pos hc, h0]
  · rw [if_neg hc, if_neg hc]
    obtain ⟨j, hj, e⟩ := s_isN_ix hc
    exact h1 j hj e
theorem e_node (h : Rel z I J P made S) (n w : Int32) : k_noV I n w = s_noV J n w made S := by
  obtain ⟨-, -, h4, -⟩ := h
  unfold k_noV s_noV
  refine r_node_cases _ _ rfl (fun j hj e => ?_)
  subst e
  obtain ⟨a1, a2, a3, a4, a5, a6⟩ := h4 j (by omega)
  rw [k_nd_nI hj, k_tn_nI (by omega), r_wait, r_sof]
  unfold k_fact
  rw [a1.2.1, a1.2.2.1, a1.2.2.2.1, a1.2.2.2.2.1, a1.2.2.2.2.2.1, a5.2.1, a6.2.1, a2.2.2.2]
theorem e_value (h : Rel z I J P made S) (n w : Int32) : k_vaV I n w = s_val J n w := by
  obtain ⟨-, -, h4, -⟩ := h
  have e0 : k_vaV I n w = (if s_isN n = 0 then 0 else s_val J n w) := by
    unfold k_vaV
    refine r_node_cases _ _ rfl (fun j hj e => ?_)
    subst e
    obtain ⟨a1, a2, a3, a4, -⟩ := h4 j (by omega)
    rw [k_nd_nI hj]
    exact r_ov hj a1 a2 a4 w
  rw [e0]
  by_cases hc : s_isN n = 0
  · rw [if_pos hc]
    unfold s_val
    rw [if_pos hc]
  · rw [if_neg hc]
theorem e_set (h : Rel z I J P made S) (n l : Int32) : k_seV I n l = s_seV J n l := by
  obtain ⟨-, -, h4, -⟩ := h
  unfold k_seV s_seV
  refine r_node_cases _ _ rfl (fun j hj e => ?_)
  subst e
  obtain ⟨a1, a2, a3, a4, -⟩ := h4 j (by omega)
  rw [k_nd_nI hj, k_tn_nI (by omega)]
  unfold k_isF
  by_cases hc : s_out l 1 16 = 0
  · have hw : ¬ k_within l 1 16 = 0 := fun q => (r_out l 1 16).mp q hc
    obtain ⟨k, hk, e1, e2⟩ := k_lev hw
    rw [if_neg hw, if_pos hc, e2, nI_clamp (by omega), (a4 k hk).2, e1, k_tn_nI (by omega)]
    by_cases h8 : J 80 (17 * j + (k + 1)) = 0
    · rw [if_pos h8, if_pos rfl]
    · rw [if_neg h8, if_neg (by decide)]
  · have hw : k_within l 1 16 = 0 := (r_out l 1 16).mpr hc
    rw [if_pos hw, if_neg hc, if_pos rfl]
theorem e_level (h : Rel z I J P made S) (n l : Int32) : k_leV I n l = s_leV J n l := by
  obtain ⟨-, -, h4, -⟩ := h
  unfold k_leV s_leV s_seV
  rw [r_isN]
  by_cases hN : s_isN n = 0
  · rw [if_pos hN, if_pos hN, if_pos rfl]
  rw [if_neg hN, if_neg hN]
  obtain ⟨j, hj, e⟩ := s_isN_ix hN
  subst e
  obtain ⟨a1, a2, a3, a4, -⟩ := h4 j (by omega)
  rw [k_nd_nI hj, k_tn_nI (by omega)]
  unfold k_num k_isF
  by_cases hc : s_out l 1 16 = 0
  · have hw : ¬ k_within l 1 16 = 0 := fun q => (r_out l 1 16).mp q hc
    obtain ⟨k, hk, e1, e2⟩ := k_lev hw
    rw [if_neg hw, if_pos hc, e2, nI_clamp (by omega), (a4 k hk).2, (a4 k hk).1, e1, k_tn_nI (by omega)]
  · have hw : k_within l 1 16 = 0 := (r_out l 1 16).mpr hc
    rw [if_pos hw, if_neg hc, if_pos rfl, if_pos rfl]
theorem e_state (h : Rel z I J P made S) (r : Int32) : k_stV I r = s_stV J r := by
  obtain ⟨⟨-, hm6, -⟩, ⟨hs, -⟩, -, ⟨hq, -⟩, -⟩ := h
  unfold k_stV s_stV k_isR
  by_cases h1 : r < 0
  · rw [if_pos h1, if_pos rfl, if_pos h1]
  rw [if_neg h1, if_neg h1, hs.1, hs.2.1]
  obtain ⟨j, hj, rfl⟩ := nI_of h1
  by_cases h2 : nI j < nI made
  · have hjm := (nI_ltI hj (by omega)).mp h2
    have hle : ¬ nI made ≤ nI j := fun q => by have := (nI_leI (by omega) hj).mp q; omega
    rw [if_neg hle, if_neg (show ¬ (1 : Int32) = 0 by decide), if_pos h2, nI_clamp hj, k_tn_nI (by omega)]
    exact (hq j hjm).1.2.2.2.2.2.2.2.2.1
  · have hjm : made ≤ j := Nat.le_of_not_lt (fun q => h2 ((nI_ltI hj (by omega)).mpr q))
    rw [if_pos ((nI_leI (by omega) hj).mpr hjm), if_pos rfl, if_neg h2]
theorem e_answer (h : Rel z I J P made S) (r : Int32) : k_anV I r = s_anV J r := by
  obtain ⟨⟨-, hm6, -⟩, ⟨hs, -⟩, -, ⟨hq, -⟩, -⟩ := h
  unfold k_anV s_anV k_isR
  by_cases h1 : r < 0
  · rw [if_pos h1, if_pos rfl, if_pos h1]
  rw [if_neg h1, if_neg h1, hs.1, hs.2.1]
  obtain ⟨j, hj, rfl⟩ := nI_of h1
  by_cases h2 : nI made ≤ nI j
  · rw [if_pos h2, if_pos rfl, if_pos h2]
  · have hjm : j < made := Nat.lt_of_not_le (fun q => h2 ((nI_leI (by omega) hj).mpr q))
    have hr := (hq j hjm).1
    rw [if_neg h2, if_neg (by decide), if_neg h2, nI_clamp hj, k_tn_nI (by omega), hr.2.2.2.2.2.2.2.2.1, hr.2.2.2.2.2.2.2.2.2.2.2.1]
theorem e_noted (h : Rel z I J P made S) (n w : Int32) : k_ntV I n w = s_ntV J n w := by
  obtain ⟨-, -, h4, -⟩ := h
  unfold k_ntV s_ntV
  refine r_node_cases _ _ rfl (fun j hj e => ?_)
  subst e
  obtain ⟨a1, -⟩ := h4 j (by omega)
  obtain ⟨b1, b2, b3, b4, b5, b6, b7, b8, b9, b10, b11⟩ := a1
  rw [k_nd_nI hj, k_tn_nI (by omega)]
  unfold k_nf
  rw [b8, b9, b10, b11]
  by_cases hc : s_out w 0 3 = 0
  · rw [if_pos hc]
    obtain ⟨k, -, hk, rfl⟩ := s_out_ix (A := 0) (B := 3) (by decide) (by decide) hc
    rcases (show k = 0 ∨ k = 1 ∨ k = 2 ∨ k = 3 by omega) with rfl | rfl | rfl | rfl
    · rw [if_neg (show ¬ nI 0 = 3 by decide), if_neg (show ¬ (3 : Int32) ≤ nI 0 by decide)]
      by_cases h9 : J 98 j = 0
      · rw [if_pos h9, if_pos h9]
      · rw [if_neg h9, if_neg h9, if_pos (show nI 0 = 0 by decide), if_pos (show nI 0 = 0 by decide)]
    · rw [if_neg (show ¬ nI 1 = 3 by decide), if_neg (show ¬ (3 : Int32) ≤ nI 1 by decide)]
      by_cases h9 : J 98 j = 0
      · rw [if_pos h9, if_pos h9]
      · rw [if_neg h9, if_neg h9, if_neg (show ¬ nI 1 = 0 by decide), if_neg (show ¬ nI 1 = 0 by decide), if_pos (show nI 1 = 1 by decide), if_pos (show nI 1 = 1 by decide)]
    · rw [if_neg (show ¬ nI 2 = 3 by decide), if_neg (show ¬ (3 : Int32) ≤ nI 2 by decide)]
      by_cases h9 : J 98 j = 0
      · rw [if_pos h9, if_pos h9]
      · rw [if_neg h9, if_neg h9, if_neg (show ¬ nI 2 = 0 by decide), if_neg (show ¬ nI 2 = 0 by decide), if_neg (show ¬ nI 2 = 1 by decide), if_neg (show ¬ nI 2 = 1 by decide), if_pos (show nI 2 = 2 by decide), if_pos (show nI 2 = 2 by decide)]
    · rw [if_pos (show nI 3 = 3 by decide), if_pos (show (3 : Int32) ≤ nI 3 by decide), if_neg (show ¬ nI 3 = 0 by decide), if_neg (show ¬ nI 3 = 1 by decide), if_neg (show ¬ nI 3 = 2 by decide)]
  · rw [if_neg hc]
    have ne : ∀ c : Int32, s_out c 0 3 = 0 → ¬ w = c := fun c hc2 e => hc (by rw [e]; exact hc2)
    rw [if_neg (ne 3 (by decide)), if_neg (ne 0 (by decide)), if_neg (ne 1 (by decide)), if_neg (ne 2 (by decide))]
    by_cases h9 : J 98 j = 0
    · rw [if_pos h9]
    · rw [if_neg h9]
theorem e_frame (h : Rel z I J P made S) (w i : Int32) : k_frV I w i = s_frV J w i := by
  obtain ⟨-, -, -, -, -, hf, -⟩ := h
  obtain ⟨f1, f2, f3, ⟨sa, ha1, ha2⟩, sb, hb1, hb2⟩ := hf
  unfold k_frV s_frV
  by_cases hc : s_out w 0 1 = 0
  · have hw : ¬ k_within w 0 1 = 0 := fun q => (r_out w 0 1).mp q hc
    rw [if_neg hw, if_pos hc]
    obtain ⟨k, -, hk, rfl⟩ := s_out_ix (A := 0) (B := 1) (by decide) (by decide) hc
    have key : ∀ (g : Nat → Int32) (f s : Nat), s ≤ 18 → J 100 f = nI s → (∀ x, x < 18 → g x = J 99 (18 * f + x)) → k_bos g (J 100 f) i = (if i = -1 then J 100 f else if i < 0 then -1 else if i < J 100 f then J 99 (18 * f + k_tn i) else -1) := by
      intro g f s hs es hg
      unfold k_bos
      by_cases c1 : i = -1
      · rw [if_pos c1, if_pos c1]
      rw [if_neg c1, if_neg c1]
      by_cases c2 : i < 0
      · rw [if_pos c2, if_pos c2]
      rw [if_neg c2, if_neg c2, es]
      obtain ⟨j, hj, rfl⟩ := nI_of c2
      by_cases c3 : nI j < nI s
      · have hjs := (nI_ltI hj (by omega)).mp c3
        rw [if_neg (fun q => by have := (nI_leI (by omega) hj).mp q; omega), if_pos c3, nI_clamp hj, hg j (by omega), k_tn_nI (by omega)]
      · have hjs : s ≤ j := Nat.le_of_not_lt (fun q => c3 ((nI_ltI hj (by omega)).mpr q))
        rw [if_pos ((nI_leI (by omega) hj).mpr hjs), if_neg c3]
    rcases (show k = 0 ∨ k = 1 by omega) with rfl | rfl
    · rw [if_pos (by decide), k_tn_nI (by omega), f2]
      exact key (I 5) 0 sa ha1 ha2 (fun x hx => by rw [(f1 x hx).1, show 18 * 0 + x = x by omega])
    · rw [if_neg (by decide), k_tn_nI (by omega), f3]
      exact key (I 7) 1 sb hb1 hb2 (fun x hx => by rw [(f1 x hx).2])
  · have hw : k_within w 0 1 = 0 := (r_out w 0 1).mpr hc
    rw [if_pos hw, if_neg hc]
end partB2
