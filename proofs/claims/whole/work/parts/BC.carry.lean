/-! frames: written alike, spoilt alike, read alike -/
section partBC
variable {z : Nat} {I I1 J J1 : xI} {P : xP} {made S s f fa ba len : Nat}
def FX (f fa ba : Nat) : Prop := (f = 0 ∧ fa = 4 ∧ ba = 5) ∨ (f = 1 ∧ fa = 6 ∧ ba = 7)
def FB (I J : xI) (f ba : Nat) : Prop := ∀ i, i < 18 → I ba i = J 99 (18 * f + i)
theorem FB.up {j : Nat} {v : Int32} (h : FB I J f ba) : FB (x_up I ba j v) (x_up J 99 (18 * f + j) v) f ba := fun i hi => by
  by_cases hc : i = j
  · rw [x_up_eq ⟨rfl, hc⟩, x_up_eq ⟨rfl, by omega⟩]
  · rw [x_up_ne (by omega), x_up_ne (by omega)]
    exact h i hi
theorem FB.l {a j : Nat} {v : Int32} (h : FB I J f ba) (ha : a ≠ ba) : FB (x_up I a j v) J f ba := fun i hi => by
  rw [x_up_ne (by omega)]
  exact h i hi
theorem FB.r {a j : Nat} {v : Int32} (h : FB I J f ba) (ha : a ≠ 99) : FB I (x_up J a j v) f ba := fun i hi => by
  rw [x_up_ne (by omega)]
  exact h i hi
theorem FB.h7 {ty to so n : Int32} (h : FB I J f ba) : FB (k_h7 I ba ty to so n) (s_h7 J f ty to so n) f ba :=
  ((((((((h.r (by decide) : FB I (s_h1 J f) f ba).up (j := 0)).up (j := 1)).up (j := 2)).up (j := 3)).up (j := 4)).up (j := 5)).up (j := 6))
theorem wk_h7_ne {ty to so n : Int32} {a k : Nat} (h : a ≠ ba ∨ 7 ≤ k) : k_h7 I ba ty to so n a k = I a k := by
  unfold k_h7
  simp (disch := omega) only [x_up_ne]
theorem wk_wh_ne {ty to so n : Int32} {a k : Nat} (h : a ≠ ba ∨ 8 ≤ k) (h2 : a ≠ fa ∨ k ≠ 1) : k_wh I fa ba ty to so n a k = I a k := by
  unfold k_wh
  rw [x_up_ne h2, x_up_ne (by omega), wk_h7_ne (by omega)]
theorem wk_d8_ne {sv id ob le nu : Int32} {a k : Nat} (h : a ≠ ba ∨ k < 8 ∨ 16 ≤ k) : k_d8 I ba sv id ob le nu a k = I a k := by
  unfold k_d8
  simp (disch := omega) only [x_up_ne]
theorem wk_wd_ne {sv id ob le nu : Int32} {a k : Nat} (h : a ≠ ba ∨ k < 8 ∨ 18 ≤ k) (h2 : a ≠ fa ∨ k ≠ 1) : k_wd I fa ba sv id ob le nu a k = I a k := by
  unfold k_wd
  rw [x_up_ne h2, x_up_ne (by omega), x_up_ne (by omega), wk_d8_ne (by omega)]
theorem ws_h7_ne {ty to so n : Int32} {a k : Nat} (h : a ≠ 99 ∨ k < 18 * f ∨ 18 * f + 7 ≤ k) (h2 : a ≠ 68 ∨ k ≠ 39) : s_h7 J f ty to so n a k = J a k := by
  unfold s_h7
  simp (disch := omega) only [x_up_ne]
theorem ws_h8_ne {ty to so n ln : Int32} {a k : Nat} (h : a ≠ 99 ∨ k < 18 * f ∨ 18 * f + 8 ≤ k) (h2 : a ≠ 68 ∨ k ≠ 39) (h3 : a ≠ 100 ∨ k ≠ f) : s_h8 J f ty to so n ln a k = J a k := by
  unfold s_h8
  rw [x_up_ne h3, x_up_ne (by omega), ws_h7_ne (by omega) h2]
theorem ws_h7_39 {ty to so n : Int32} : s_h7 J f ty to so n 68 39 = nI (f + 1) := by
  unfold s_h7 s_h1
  rw [x_up_ne (by omega), x_up_ne (by omega), x_up_ne (by omega), x_up_ne (by omega), x_up_ne (by omega), x_up_ne (by omega), x_up_ne (by omega), x_up_eq ⟨rfl, rfl⟩, nI_1]
theorem ws_h8_39 {ty to so n ln : Int32} : s_h8 J f ty to so n ln 68 39 = nI (f + 1) := by
  unfold s_h8
  rw [x_up_ne (by omega), x_up_ne (by omega), ws_h7_39]
theorem ws_lay_ne {sv id ob le v : Int32} {a k : Nat} (h : a ≠ 99 ∨ k < 18 * f + 8 ∨ 18 * f + 16 ≤ k) : s_lay J f sv id ob le v a k = J a k := by
  unfold s_lay s_ly s_ly s_ly s_ly s_ly s_l4
  simp (disch := omega) only [x_up_ne]
theorem FB.h8 {ty to so n ln : Int32} (h : ∀ i, i < 5 → k_h7 I ba ty to so n ba (2 + i) = s_h7 J f ty to so n 99 (18 * f + (2 + i))) : k_hc (k_h7 I ba ty to so n ba) = s_hc (s_h7 J f ty to so n) f := by
  unfold s_hc
  exact hc_eq (g := fun i => s_h7 J f ty to so n 99 (18 * f + i)) h
/-- what a written frame is -/
def FW (I J I1 J1 : xI) (f fa ba len : Nat) : Prop := FB I1 J1 f ba ∧ I1 fa 1 = nI len ∧ J1 100 f = nI len ∧ (len = 8 ∨ len = 18) ∧ (∀ a k, a ≠ ba → (a ≠ fa ∨ k ≠ 1) → I1 a k = I a k) ∧ (∀ a k, (a ≠ 99 ∨ k < 18 * f ∨ 18 * f + 18 ≤ k) → (a ≠ 68 ∨ k ≠ 39) → (a ≠ 100 ∨ k ≠ f) → J1 a k = J a k) ∧ J1 68 39 = nI (f + 1) ∧ (len = 8 → I1 ba 6 = 0 ∧ I1 ba 7 = k_hc (I1 ba))
theorem k_hc_c {f g : Nat → Int32} (h : ∀ i, i < 5 → f (2 + i) = g (2 + i)) : k_hc f = k_hc g := (hc_eq h).trans (hc_eq (fun _ _ => rfl)).symm
theorem FW.head {ty to so : Int32} (hx : FX f fa ba) (h : FB I J f ba) : FW I J (k_wh I fa ba ty to so 0) (s_hd J f ty to so 0) f fa ba 8 := by
  have hb : fa ≠ ba := by unfold FX at hx; omega
  have e0 : s_hd J f ty to so 0 = s_h8 J f ty to so 0 8 := if_pos rfl
  rw [e0]
  have e1 : k_hc (k_h7 I ba ty to so 0 ba) = s_hc (s_h7 J f ty to so 0) f := FB.h8 (ln := 8) (fun i hi => h.h7 (2 + i) (by omega))
  refine ⟨?_, x_up_eq ⟨rfl, rfl⟩, x_up_eq ⟨rfl, rfl⟩, Or.inl rfl, fun a k h1 h2 => wk_wh_ne (Or.inl h1) h2, fun a k h1 h2 h3 => ws_h8_ne (by omega) h2 h3, ws_h8_39, fun _ => ⟨?_, ?_⟩⟩
  · unfold k_wh s_h8
    rw [e1]
    exact (h.h7.up (j := 7)).l hb |>.r (by decide)
  · unfold k_wh k_h7
    rw [x_up_ne (by omega), x_up_ne (by omega), x_up_eq ⟨rfl, rfl⟩]
  · have e2 : k_hc (k_wh I fa ba ty to so 0 ba) = k_hc (k_h7 I ba ty to so 0 ba) := k_hc_c (fun i hi => by
      unfold k_wh
      rw [x_up_ne (by omega), x_up_ne (by omega)])
    rw [e2]
    unfold k_wh
    rw [x_up_ne (by omega), x_up_eq ⟨rfl, rfl⟩]
theorem d8_eq {sv id ob le nu : Int32} {j : Nat} (hj : j < 8) : k_d8 I ba sv id ob le nu ba (8 + j) = s_lay J f sv id ob le nu 99 (18 * f + (8 + j)) := by
  have s3 : nu >>> (24 - 8 * nI 3 &&& 31 : Int32) = nu := by
    rw [show (24 - 8 * nI 3 &&& 31 : Int32) = 0 by decide, Int32.shiftRight_zero]
  have s0 : (24 - 8 * nI 0 &&& 31 : Int32) = 24 &&& 31 := by decide
  have s1 : (24 - 8 * nI 1 &&& 31 : Int32) = 16 &&& 31 := by decide
  have s2 : (24 - 8 * nI 2 &&& 31 : Int32) = 8 &&& 31 := by decide
  unfold k_d8 s_lay s_ly s_ly s_ly s_ly s_ly s_l4
  rw [s3, s0, s1, s2]
  match j, hj with
  | 0, _ => simp (disch := omega) only [x_up_ne, x_up_eq]
  | 1, _ => simp (disch := omega) only [x_up_ne, x_up_eq]
  | 2, _ => simp (disch := omega) only [x_up_ne, x_up_eq]
  | 3, _ => simp (disch := omega) only [x_up_ne, x_up_eq]
  | 4, _ => simp (disch := omega) only [x_up_ne, x_up_eq]
  | 5, _ => simp (disch := omega) only [x_up_ne, x_up_eq]
  | 6, _ => simp (disch := omega) only [x_up_ne, x_up_eq]
  | 7, _ => simp (disch := omega) only [x_up_ne, x_up_eq]
theorem FW.data {ty to so sv id ob le nu : Int32} (hx : FX f fa ba) (h : FB I J f ba) : FW I J (k_wd (k_wh I fa ba ty to so 8) fa ba sv id ob le nu) (s_hd (s_lay J f sv id ob le nu) f ty to so 1) f fa ba 18 := by
  have hb : fa ≠ ba := by unfold FX at hx; omega
  have hl : ∀ i, i < 18 → (i < 8 ∨ 16 ≤ i) → k_h7 I ba ty to so 8 ba i = s_h7 (s_lay J f sv id ob le nu) f ty to so 8 99 (18 * f + i) := fun i hi hi2 => by
    rw [h.h7 i hi]
    by_cases h7 : 7 ≤ i
    · rw [ws_h7_ne (by omega) (by omega), ws_h7_ne (by omega) (by omega), ws_lay_ne (by omega)]
    · unfold s_h7
      match i, h7 with
      | 0, _ => simp (disch := omega) only [x_up_ne, x_up_eq]
      | 1, _ => simp (disch := omega) only [x_up_ne, x_up_eq]
      | 2, _ => simp (disch := omega) only [x_up_ne, x_up_eq]
      | 3, _ => simp (disch := omega) only [x_up_ne, x_up_eq]
      | 4, _ => simp (disch := omega) only [x_up_ne, x_up_eq]
      | 5, _ => simp (disch := omega) only [x_up_ne, x_up_eq]
      | 6, _ => simp (disch := omega) only [x_up_ne, x_up_eq]
      | i + 7, h7 => exact absurd (Nat.le_add_left 7 i) h7
  have e1 : k_hc (k_h7 I ba ty to so 8 ba) = s_hc (s_h7 (s_lay J f sv id ob le nu) f ty to so 8) f := FB.h8 (ln := 8) (fun i hi => hl (2 + i) (by omega) (by omega))
  have h8 : FB (k_d8 (k_wh I fa ba ty to so 8) ba sv id ob le nu) (s_h8 (s_lay J f sv id ob le nu) f ty to so 8 18) f ba := fun i hi => by
    by_cases hc : i < 8 ∨ 16 ≤ i
    · rw [wk_d8_ne (by omega)]
      unfold k_wh s_h8
      rw [x_up_ne (by omega), x_up_ne (b := 99) (by omega), e1]
      by_cases h7 : i = 7
      · rw [x_up_eq ⟨rfl, h7⟩, x_up_eq ⟨rfl, by omega⟩]
      · rw [x_up_ne (by omega), x_up_ne (by omega)]
        exact hl i hi hc
    · rw [ws_h8_ne (by omega) (by omega) (by omega)]
      have := d8_eq (I := k_wh I fa ba ty to so 8) (J := J) (ba := ba) (f := f) (sv := sv) (id := id) (ob := ob) (le := le) (nu := nu) (j := i - 8) (by omega)
      rw [show 8 + (i - 8) = i by omega] at this
      exact this
  have e0 : s_hd (s_lay J f sv id ob le nu) f ty to so 1 = x_up (x_up (s_h8 (s_lay J f sv id ob le nu) f ty to so 8 18) 99 (18 * f + 16) (s_dc (s_h8 (s_lay J f sv id ob le nu) f ty to so 8 18) f - s_dc (s_h8 (s_lay J f sv id ob le nu) f ty to so 8 18) f / 256 * 256)) 99 (18 * f + 17) (s_dc (s_h8 (s_lay J f sv id ob le nu) f ty to so 8 18) f / 256) := if_neg (by decide)
  rw [e0]
  obtain ⟨m, hm, d1, d2⟩ := dc_eq (f := k_d8 (k_wh I fa ba ty to so 8) ba sv id ob le nu ba) (g := fun i => s_h8 (s_lay J f sv id ob le nu) f ty to so 8 18 99 (18 * f + i)) (fun i hi => h8 (8 + i) (by omega))
  have d3 : s_dc (s_h8 (s_lay J f sv id ob le nu) f ty to so 8 18) f = nI m := d2
  rw [d3, ← low8 hm, ← high8 hm]
  have e4 : k_wd (k_wh I fa ba ty to so 8) fa ba sv id ob le nu = x_up (x_up (x_up (k_d8 (k_wh I fa ba ty to so 8) ba sv id ob le nu) ba 16 (nI m &&& 255)) ba 17 (nI m >>> (8 &&& 31 : Int32))) fa 1 18 := by
    unfold k_wd
    rw [d1]
  refine ⟨?_, x_up_eq ⟨rfl, rfl⟩, ?_, Or.inr rfl, fun a k h1 h2 => ?_, fun a k h1 h2 h3 => ?_, ?_, fun q => absurd q (by decide)⟩
  · rw [e4]
    exact ((h8.up (j := 16)).up (j := 17)).l hb
  · rw [x_up_ne (by omega), x_up_ne (by omega)]
    exact x_up_eq ⟨rfl, rfl⟩
  · rw [wk_wd_ne (Or.inl h1) h2, wk_wh_ne (Or.inl h1) h2]
  · rw [x_up_ne (by omega), x_up_ne (by omega), ws_h8_ne (by omega) h2 h3, ws_lay_ne (by omega)]
  · rw [x_up_ne (by omega), x_up_ne (by omega), ws_h8_39]
end partBC
