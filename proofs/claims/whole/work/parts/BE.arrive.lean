/-! a frame arrives alike -/
section partBE
variable {W : xI} {z : Nat} {I I1 J J1 : xI} {P : xP} {made S s f fa ba len : Nat}
theorem spoil_cases (hx : FX f fa ba) (h : St W z I J P made S s f) (w : FW I J I1 J1 f fa ba len) : (k_arI I1 fa ba = x_up I1 1 11 (I1 1 11 + 1) ∧ s_spl J1 f s = J1) ∨ ∃ v, k_arI I1 fa ba = x_up (x_up I1 1 11 (I1 1 11 + 1)) ba s v ∧ s_spl J1 f s = x_up J1 99 (18 * f + s) v := by
  obtain ⟨hc, ⟨hf, hs⟩, c1, c2, c3, hs18, hW⟩ := h
  obtain ⟨w1, w2, w3, w4, w5, w6, w7, w8⟩ := w
  obtain ⟨wn, s9, mk, sf, q1, q2, q3, q4, j42, j43, j44, i2, i3, i4⟩ : ∃ wn s9 mk sf : Nat, wn ≤ 1 ∧ s9 < 18 ∧ mk ≤ 255 ∧ sf < 18 ∧ J 68 42 = nI wn ∧ J 68 43 = nI s9 ∧ J 68 44 = nI mk ∧ I fa 2 = nI sf ∧ I fa 3 = (if wn = f then nI mk else 0) ∧ (wn = f → mk = 0 ∨ sf = s9) := by
    obtain ⟨w0, s9, mk, s0, s1, p1, p2, p3, p4, p5, d1, d2, d3, d4, d5, d6, d7, d8, d9⟩ := hs
    rcases hx with ⟨rfl, rfl, rfl⟩ | ⟨rfl, rfl, rfl⟩
    · exact ⟨w0, s9, mk, s0, p1, p2, p3, p4, d1, d2, d3, d4, d6, d8⟩
    · exact ⟨w0, s9, mk, s1, p1, p2, p3, p5, d1, d2, d3, d5, d7, d9⟩
  have es : s9 = s := (nI_eq (by omega) (by omega)).mp (j43.symm.trans c3)
  subst es
  have hf1 : f ≤ 1 ∧ fa ≠ ba ∧ fa ≠ 1 ∧ ba ≠ 1 := by unfold FX at hx; omega
  have a2 : x_up I1 1 11 (I1 1 11 + 1) fa 2 = nI sf := by rw [x_up_ne (by omega), w5 _ _ (by omega) (by omega), i2]
  have a3 : x_up I1 1 11 (I1 1 11 + 1) fa 3 = (if wn = f then nI mk else 0) := by rw [x_up_ne (by omega), w5 _ _ (by omega) (by omega), i3]
  have a1 : x_up I1 1 11 (I1 1 11 + 1) fa 1 = nI len := by rw [x_up_ne (by omega), w2]
  have b2 : J1 68 42 = nI wn := by rw [w6 _ _ (by omega) (by omega) (by omega), j42]
  have b3 : J1 68 43 = nI s9 := by rw [w6 _ _ (by omega) (by omega) (by omega), j43]
  have b4 : J1 68 44 = nI mk := by rw [w6 _ _ (by omega) (by omega) (by omega), j44]
  unfold k_arI k_spoil s_spl
  rw [a3, a2, a1, b2, b3, b4, w3, nI_clamp (by omega)]
  by_cases hw : wn = f
  · rw [if_pos hw]
    by_cases hm : mk = 0
    · rw [hm, if_pos (by decide), if_pos (by decide)]
      exact Or.inl ⟨rfl, rfl⟩
    · have e : sf = s9 := by
        rcases i4 hw with q | q
        · exact absurd q hm
        · exact q
      subst e
      rw [if_neg (nI_ne0 (by omega) (by omega)), if_neg (nI_nle (by omega) (by omega)), if_pos (show nI wn = nI f by rw [hw])]
      by_cases hl : nI len ≤ nI sf
      · rw [if_pos hl, if_pos hl]
        exact Or.inl ⟨rfl, rfl⟩
      · rw [if_neg hl, if_neg hl, x_up_ne (by omega), w1 sf hs18]
        exact Or.inr ⟨_, rfl, rfl⟩
  · rw [if_neg hw, if_pos rfl]
    have e : ¬ nI wn = nI f := fun q => hw ((nI_eq (by omega) (by omega)).mp q)
    rw [if_neg e]
    by_cases hm : nI mk ≤ 0
    · rw [if_pos hm]
      exact Or.inl ⟨rfl, rfl⟩
    · rw [if_neg hm]
      exact Or.inl ⟨rfl, rfl⟩
theorem arrive (hx : FX f fa ba) (h : St W z I J P made S s f) (w : FW I J I1 J1 f fa ba len) : St W z (k_arI I1 fa ba) (s_spl J1 f s) P made S s (f + 1) ∧ k_arV I1 fa ba = s_arr (s_spl J1 f s) f (s_head (s_spl J1 f s) f) (s_rest (s_spl J1 f s) f) := by
  have sc := spoil_cases hx h w
  obtain ⟨hc, ⟨hf, hs⟩, c1, c2, c3, hs18, hW⟩ := h
  obtain ⟨w1, w2, w3, w4, w5, w6, w7, w8⟩ := w
  have hf1 : f ≤ 1 ∧ fa ≠ ba ∧ fa ≠ 1 ∧ ba ≠ 1 ∧ fa < 8 ∧ ba < 8 ∧ 4 ≤ fa ∧ 4 ≤ ba ∧ ba ≠ 4 ∧ ba ≠ 6 ∧ fa ≠ 5 ∧ fa ≠ 7 := by unfold FX at hx; omega
  have g11 : I1 1 11 + 1 = nI (f + 1) := by rw [w5 _ _ (by omega) (by omega), c1, nI_1]
  unfold k_arV
  generalize hI' : k_arI I1 fa ba = I' at sc ⊢
  generalize hJ' : s_spl J1 f s = J' at sc ⊢
  have gI : ∀ a k, a ≠ ba → (a ≠ 1 ∨ k ≠ 11) → (a ≠ fa ∨ k ≠ 1) → I' a k = I a k := fun a k h1 h2 h3 => by
    rcases sc with ⟨rfl, rfl⟩ | ⟨v, rfl, rfl⟩
    · rw [x_up_ne (by omega), w5 _ _ h1 h3]
    · rw [x_up_ne (by omega), x_up_ne (by omega), w5 _ _ h1 h3]
  have gJ : ∀ a k, (a ≠ 99 ∨ k < 18 * f ∨ 18 * f + 18 ≤ k) → (a ≠ 68 ∨ k ≠ 39) → (a ≠ 100 ∨ k ≠ f) → J' a k = J a k := fun a k h1 h2 h3 => by
    rcases sc with ⟨rfl, rfl⟩ | ⟨v, rfl, rfl⟩
    · exact w6 _ _ h1 h2 h3
    · rw [x_up_ne (by omega), w6 _ _ h1 h2 h3]
  have gB : FB I' J' f ba := by
    rcases sc with ⟨rfl, rfl⟩ | ⟨v, rfl, rfl⟩
    · exact w1.l (by omega)
    · exact (FB.l w1 (by omega)).up
  have g1 : I' 1 11 = nI (f + 1) := by
    rcases sc with ⟨rfl, rfl⟩ | ⟨v, rfl, rfl⟩
    · rw [x_up_eq ⟨rfl, rfl⟩, g11]
    · rw [x_up_ne (by omega), x_up_eq ⟨rfl, rfl⟩, g11]
  have g2 : J' 68 39 = nI (f + 1) := by
    rcases sc with ⟨rfl, rfl⟩ | ⟨v, rfl, rfl⟩
    · exact w7
    · rw [x_up_ne (by omega), w7]
  have g3 : I' fa 1 = nI len := by
    rcases sc with ⟨rfl, rfl⟩ | ⟨v, rfl, rfl⟩
    · rw [x_up_ne (by omega), w2]
    · rw [x_up_ne (by omega), x_up_ne (by omega), w2]
  have g4 : J' 100 f = nI len := by
    rcases sc with ⟨rfl, rfl⟩ | ⟨v, rfl, rfl⟩
    · exact w3
    · rw [x_up_ne (by omega), w3]
  have g5 : ∃ p, ∀ i, i ≠ p → I' ba i = I1 ba i := by
    rcases sc with ⟨rfl, rfl⟩ | ⟨v, rfl, rfl⟩
    · exact ⟨0, fun i _ => x_up_ne (by omega)⟩
    · exact ⟨s, fun i hi => (x_up_ne (by omega)).trans (x_up_ne (by omega))⟩
  have hco : Co z I' J' P made S := hc.congr (fun a k q => gI a k (by omega) (by omega) (by omega)) (fun a k q => gJ a k (by omega) (by omega) (by omega))
  have hfr : r_fr I' J' := by
    obtain ⟨f1, f2, f3, f4, f5⟩ := hf
    rcases hx with ⟨rfl, rfl, rfl⟩ | ⟨rfl, rfl, rfl⟩
    · refine ⟨fun k hk => ⟨?_, ?_⟩, ?_, ?_, ⟨len, by omega, g4⟩, ?_⟩
      · have := gB k hk
        rw [show 18 * 0 + k = k by omega] at this
        exact this
      · rw [gI _ _ (by omega) (by omega) (by omega), gJ _ _ (by omega) (by omega) (by omega)]
        exact (f1 k hk).2
      · rw [g3, g4]
      · rw [gI _ _ (by omega) (by omega) (by omega), gJ _ _ (by omega) (by omega) (by omega)]
        exact f3
      · rw [gJ _ _ (by omega) (by omega) (by omega)]
        exact f5
    · refine ⟨fun k hk => ⟨?_, ?_⟩, ?_, ?_, ?_, ⟨len, by omega, g4⟩⟩
      · rw [gI _ _ (by omega) (by omega) (by omega), gJ _ _ (by omega) (by omega) (by omega)]
        exact (f1 k hk).1
      · exact gB k hk
      · rw [gI _ _ (by omega) (by omega) (by omega), gJ _ _ (by omega) (by omega) (by omega)]
        exact f2
      · rw [g3, g4]
      · rw [gJ _ _ (by omega) (by omega) (by omega)]
        exact f4
  have hsp : r_sp I' J' := r_sp_d hs (fun j hj => ⟨gI _ _ (by omega) (by omega) (by omega), gI _ _ (by omega) (by omega) (by omega)⟩) (fun j h1 h2 => gJ _ _ (by omega) (by omega) (by omega))
  refine ⟨⟨hco, ⟨hfr, hsp⟩, g1, g2, (gJ _ _ (by omega) (by omega) (by omega)).trans c3, hs18, fun a k q1 q2 => (gI a k (by omega) (by omega) (by omega)).trans (hW a k q1 q2)⟩, ?_⟩
  have ehc : k_hc (I' ba) = s_hc J' f := hc_eq (g := fun i => J' 99 (18 * f + i)) (fun i hi => gB (2 + i) (by omega))
  obtain ⟨m, hm, d1, d2⟩ := dc_eq (f := I' ba) (g := fun i => J' 99 (18 * f + i)) (fun i hi => gB (8 + i) (by omega))
  have edc : k_dc (I' ba) = s_dc J' f := d1.trans d2.symm
  have e0 : J' 99 (18 * f) = I' ba 0 := (gB 0 (by omega)).symm
  have e1 : J' 99 (18 * f + 1) = I' ba 1 := (gB 1 (by omega)).symm
  have e3 : J' 99 (18 * f + 3) = I' ba 3 := (gB 3 (by omega)).symm
  have e6 : J' 99 (18 * f + 6) = I' ba 6 := (gB 6 (by omega)).symm
  have e7 : J' 99 (18 * f + 7) = I' ba 7 := (gB 7 (by omega)).symm
  have e16 : J' 99 (18 * f + 16) = I' ba 16 := (gB 16 (by omega)).symm
  have e17 : J' 99 (18 * f + 17) = I' ba 17 := (gB 17 (by omega)).symm
  have key : k_right (I' ba) (I' fa 1) = 0 ↔ (s_head J' f = 0 ∨ s_rest J' f = 0) := by
    unfold k_right s_head s_rest
    rw [e0, e1, e6, e7, e16, e17, ← ehc, ← edc, g3, shl8]
    by_cases h0 : I' ba 0 = 85
    · rw [if_pos h0, if_pos h0]
      by_cases h1 : I' ba 1 = 255
      · rw [if_pos h1, if_pos h1]
        by_cases h7 : I' ba 7 = k_hc (I' ba)
        · rw [if_pos h7, if_pos h7]
          by_cases h6 : I' ba 6 = 0
          · rw [if_pos h6, if_pos h6]
            exact ⟨fun q => absurd q (by decide), fun q => by rcases q with q | q <;> exact absurd q (by decide)⟩
          · rw [if_neg h6, if_neg h6]
            by_cases h8 : I' ba 6 = 8
            · rw [if_pos h8, if_pos h8]
              have hl : len = 18 := by
                rcases w4 with hl | hl
                · exfalso
                  obtain ⟨p, hp⟩ := g5
                  obtain ⟨v1, v2⟩ := w8 hl
                  by_cases hp6 : p = 6
                  · subst hp6
                    refine hc_six (f := I1 ba) (g := I' ba) (fun i hi => (hp _ (by omega)).symm) v1 h8 ?_
                    rw [← v2, ← h7, hp 7 (by omega)]
                  · exact h6 ((hp 6 (by omega)).trans v1)
                · exact hl
              subst hl
              rw [if_pos (by decide)]
              by_cases h9 : I' ba 16 + 256 * I' ba 17 = k_dc (I' ba)
              · rw [if_pos h9]
                exact ⟨fun q => absurd q (by decide), fun q => by rcases q with q | q <;> exact absurd q (by decide)⟩
              · rw [if_neg h9]
                exact ⟨fun _ => Or.inr rfl, fun _ => rfl⟩
            · rw [if_neg h8, if_neg h8]
              exact ⟨fun _ => Or.inr rfl, fun _ => rfl⟩
        · rw [if_neg h7, if_neg h7]
          exact ⟨fun _ => Or.inl rfl, fun _ => rfl⟩
      · rw [if_neg h1, if_neg h1]
        exact ⟨fun _ => Or.inl rfl, fun _ => rfl⟩
    · rw [if_neg h0, if_neg h0]
      exact ⟨fun _ => Or.inl rfl, fun _ => rfl⟩
  unfold s_arr
  rw [e3, r_isN]
  by_cases hk : k_right (I' ba) (I' fa 1) = 0
  · rw [if_pos hk]
    by_cases h7 : s_head J' f = 0
    · rw [if_pos h7]
    · rw [if_neg h7]
      rcases key.mp hk with q | q
      · exact absurd q h7
      · rw [if_pos q]
  · rw [if_neg hk, if_neg (fun q => hk (key.mpr (Or.inl q))), if_neg (fun q => hk (key.mpr (Or.inr q)))]
    by_cases hN : s_isN (I' ba 3) = 0
    · rw [if_pos hN, if_pos hN]
    · rw [if_neg hN, if_neg hN]
      obtain ⟨j, hj, e⟩ := s_isN_ix hN
      rw [e, k_nd_nI hj, k_tn_nI (by omega), hco.2.1 _ _ _ _ (pr_nd (k := 5) (show j < 6 by omega) (by decide) (by decide))]
/-- both kinds of frame -/
theorem St.fb (hx : FX f fa ba) (h : St W z I J P made S s f) : FB I J f ba := fun i hi => by
  have := (h.2.1.1.1 i hi)
  rcases hx with ⟨rfl, rfl, rfl⟩ | ⟨rfl, rfl, rfl⟩
  · rw [show 18 * 0 + i = i by omega]
    exact this.1
  · exact this.2
theorem St.carry {ty to so : Int32} (hx : FX f fa ba) (h : St W z I J P made S s f) : St W z (k_arI (k_wh I fa ba ty to so 0) fa ba) (s_caJ J f s ty to so 0) P made S s (f + 1) ∧ k_arV (k_wh I fa ba ty to so 0) fa ba = s_caV J f s ty to so 0 :=
  arrive hx h (FW.head hx (h.fb hx))
theorem St.data {ty to so sv id ob le nu : Int32} (hx : FX f fa ba) (h : St W z I J P made S s f) : St W z (k_arI (k_wd (k_wh I fa ba ty to so 8) fa ba sv id ob le nu) fa ba) (s_caJ (s_lay J f sv id ob le nu) f s ty to so 1) P made S s (f + 1) ∧ k_arV (k_wd (k_wh I fa ba ty to so 8) fa ba sv id ob le nu) fa ba = s_caV (s_lay J f sv id ob le nu) f s ty to so 1 :=
  arrive hx h (FW.data hx (h.fb hx))
end partBE
