/-! held, quotients, distances: alike -/
theorem r_held10 (x : Int32) : k_held x 10000 = s_held x 10000 := by
  unfold k_held s_held
  have e1 : (10000 : Int32).toInt = 10000 := by decide
  have e2 : (-10000 : Int32).toInt = -10000 := by decide
  by_cases h1 : x < 10000
  · rw [if_pos h1]
    rw [Int32.lt_iff_toInt_lt, e1] at h1
    by_cases h2 : -10000 ≤ x
    · rw [if_pos h2]
      rw [Int32.le_iff_toInt_le, e2] at h2
      rw [if_pos (show x ≤ 10000 by rw [Int32.le_iff_toInt_le, e1]; omega)]
      by_cases h3 : -10000 < x
      · rw [if_pos h3]
      · rw [if_neg h3]
        rw [Int32.lt_iff_toInt_lt, e2] at h3
        exact Int32.toInt_inj.mp (by rw [e2]; omega)
    · rw [if_neg h2]
      rw [Int32.le_iff_toInt_le, e2] at h2
      rw [if_neg (show ¬ -10000 < x by rw [Int32.lt_iff_toInt_lt, e2]; omega)]
  · rw [if_neg h1, if_pos (by decide)]
    rw [Int32.lt_iff_toInt_lt, e1] at h1
    rw [if_pos (show -10000 ≤ x by rw [Int32.le_iff_toInt_le, e2]; omega)]
    by_cases h3 : x ≤ 10000
    · rw [if_pos h3]
      rw [Int32.le_iff_toInt_le, e1] at h3
      exact Int32.toInt_inj.mp (by rw [e1]; omega)
    · rw [if_neg h3]
theorem r_held1 (x : Int32) : k_held x 1000 = s_held x 1000 := by
  unfold k_held s_held
  have e1 : (1000 : Int32).toInt = 1000 := by decide
  have e2 : (-1000 : Int32).toInt = -1000 := by decide
  by_cases h1 : x < 1000
  · rw [if_pos h1]
    rw [Int32.lt_iff_toInt_lt, e1] at h1
    by_cases h2 : -1000 ≤ x
    · rw [if_pos h2]
      rw [Int32.le_iff_toInt_le, e2] at h2
      rw [if_pos (show x ≤ 1000 by rw [Int32.le_iff_toInt_le, e1]; omega)]
      by_cases h3 : -1000 < x
      · rw [if_pos h3]
      · rw [if_neg h3]
        rw [Int32.lt_iff_toInt_lt, e2] at h3
        exact Int32.toInt_inj.mp (by rw [e2]; omega)
    · rw [if_neg h2]
      rw [Int32.le_iff_toInt_le, e2] at h2
      rw [if_neg (show ¬ -1000 < x by rw [Int32.lt_iff_toInt_lt, e2]; omega)]
  · rw [if_neg h1, if_pos (by decide)]
    rw [Int32.lt_iff_toInt_lt, e1] at h1
    rw [if_pos (show -1000 ≤ x by rw [Int32.le_iff_toInt_le, e2]; omega)]
    by_cases h3 : x ≤ 1000
    · rw [if_pos h3]
      rw [Int32.le_iff_toInt_le, e1] at h3
      exact Int32.toInt_inj.mp (by rw [e1]; omega)
    · rw [if_neg h3]
theorem r_out_int {x a b : Int32} : s_out x a b = 0 ↔ a.toInt ≤ x.toInt ∧ x.toInt ≤ b.toInt := by
  unfold s_out
  by_cases h1 : x < a
  · rw [if_pos h1]
    rw [Int32.lt_iff_toInt_lt] at h1
    exact ⟨fun q => absurd q (by decide), fun q => by omega⟩
  · rw [if_neg h1]
    rw [Int32.lt_iff_toInt_lt] at h1
    by_cases h2 : x ≤ b
    · rw [if_pos h2]
      rw [Int32.le_iff_toInt_le] at h2
      exact ⟨fun _ => ⟨by omega, h2⟩, fun _ => rfl⟩
    · rw [if_neg h2]
      rw [Int32.le_iff_toInt_le] at h2
      exact ⟨fun q => absurd q (by decide), fun q => by omega⟩
theorem s_held_out (x : Int32) : s_out (s_held x 10000) (-10000) 10000 = 0 := by
  rw [r_out_int]
  have e1 : (10000 : Int32).toInt = 10000 := by decide
  have e2 : (-10000 : Int32).toInt = -10000 := by decide
  unfold s_held
  by_cases h2 : -10000 ≤ x
  · rw [if_pos h2]
    rw [Int32.le_iff_toInt_le, e2] at h2
    by_cases h3 : x ≤ 10000
    · rw [if_pos h3, e1, e2]
      rw [Int32.le_iff_toInt_le, e1] at h3
      omega
    · rw [if_neg h3, e1, e2]
      omega
  · rw [if_neg h2, e1, e2]
    omega
theorem r_xor_sign (x : Int32) : 0 ≤ x ^^^ 16 ↔ 0 ≤ x := by
  have m : ∀ y : Int32, 0 ≤ y ↔ y.toBitVec.msb = false := fun y => by
    rw [Int32.le_iff_toInt_le, BitVec.msb_eq_toInt]
    show (0 : Int) ≤ y.toBitVec.toInt ↔ _
    simp
  rw [m, m, Int32.toBitVec_xor, BitVec.msb_xor]
  have e : (16 : Int32).toBitVec.msb = false := by decide
  rw [e, Bool.xor_false]
theorem r_bm {a : Int} (h1 : -2147483648 ≤ a) (h2 : a < 2147483648) : a.bmod (2 ^ 32) = a := by
  rw [Int.bmod_eq_of_le (by omega) (by omega)]
theorem r_quo {x : Int32} (h1 : -3000000 ≤ x.toInt) (h2 : x.toInt ≤ 3000000) : k_fdiv x 16 = s_quo x 16 := by
  unfold k_fdiv s_quo
  have e16 : (16 : Int32).toInt = 16 := by decide
  have e0 : (0 : Int32).toInt = 0 := by decide
  by_cases h0 : x < 0
  · have hx : x.toInt < 0 := by
      rw [Int32.lt_iff_toInt_lt, e0] at h0
      exact h0
    have hn : ¬ 0 ≤ x ^^^ 16 := by
      rw [r_xor_sign, Int32.le_iff_toInt_le, e0]
      omega
    rw [if_neg hn, if_pos h0]
    have ed : (x / 16).toInt = -((-x.toInt) / 16) := by
      rw [Int32.toInt_div, e16]
      have : x.toInt.tdiv 16 = -((-x.toInt) / 16) := by
        rw [← Int.tdiv_eq_ediv_of_nonneg (show 0 ≤ -x.toInt by omega), Int.neg_tdiv, Int.neg_neg]
      rw [this, r_bm (by omega) (by omega)]
    have em : (x / 16 * 16).toInt = -((-x.toInt) / 16) * 16 := by
      rw [Int32.toInt_mul, ed, e16, r_bm (by omega) (by omega)]
    have e1 : (x / 16 - 1).toInt = -((-x.toInt) / 16) - 1 := by
      rw [Int32.toInt_sub, ed, show (1 : Int32).toInt = 1 by decide, r_bm (by omega) (by omega)]
    have e2 : (16 - 1 - x).toInt = 15 - x.toInt := by
      rw [Int32.toInt_sub, show ((16 : Int32) - 1).toInt = 15 by decide, r_bm (by omega) (by omega)]
    have e3 : ((16 - 1 - x) / 16).toInt = (15 - x.toInt) / 16 := by
      rw [Int32.toInt_div, e2, e16, Int.tdiv_eq_ediv_of_nonneg (by omega), r_bm (by omega) (by omega)]
    have e4 : (-((16 - 1 - x) / 16)).toInt = -((15 - x.toInt) / 16) := by
      rw [Int32.toInt_neg, e3, r_bm (by omega) (by omega)]
    by_cases hm : x / 16 * 16 = x
    · rw [if_pos hm]
      rw [← Int32.toInt_inj, em] at hm
      exact Int32.toInt_inj.mp (by rw [ed, e4]; omega)
    · rw [if_neg hm]
      rw [← Int32.toInt_inj, em] at hm
      exact Int32.toInt_inj.mp (by rw [e1, e4]; omega)
  · have hn : 0 ≤ x ^^^ 16 := by
      rw [r_xor_sign, Int32.le_iff_toInt_le, e0]
      rw [Int32.lt_iff_toInt_lt, e0] at h0
      omega
    rw [if_pos hn, if_neg h0]
theorem r_far (v w : Int32) : k_far v w = s_far v w := by
  unfold k_far s_far
  have hb : ∀ y : Int32, -2147483648 ≤ y.toInt ∧ y.toInt < 2147483648 := fun y => ⟨Int32.le_toInt y, Int32.toInt_lt y⟩
  have hv := hb v
  have hw := hb w
  have bm : ∀ a : Int, -4294967296 ≤ a → a ≤ 4294967296 → a.bmod (2 ^ 64) = a := fun a h1 h2 => Int.bmod_eq_of_le (by omega) (by omega)
  have ed : (v.toInt64 - w.toInt64).toInt = v.toInt - w.toInt := by
    rw [Int64.toInt_sub, Int32.toInt_toInt64, Int32.toInt_toInt64, bm _ (by omega) (by omega)]
  have en : (-(v.toInt64 - w.toInt64)).toInt = -(v.toInt - w.toInt) := by
    rw [Int64.toInt_neg, ed, bm _ (by omega) (by omega)]
  have e0 : (0 : Int64).toInt = 0 := by decide
  have e10 : (10 : Int64).toInt = 10 := by decide
  have em : (-10 : Int64).toInt = -10 := by decide
  simp only [lg_cmp_lt, lg_cmp_ge, lg_cmp_gt]
  generalize v.toInt64 - w.toInt64 = d at ed en
  by_cases h1 : 10 ≤ d
  · rw [if_pos h1]
    rw [Int64.le_iff_toInt_le, e10, ed] at h1
    rw [if_pos (show 0 < d by rw [Int64.lt_iff_toInt_lt, e0, ed]; omega), if_neg (show ¬ d < 10 by rw [Int64.lt_iff_toInt_lt, e10, ed]; omega)]
  · rw [if_neg h1]
    rw [Int64.le_iff_toInt_le, e10, ed] at h1
    by_cases h2 : -10 < d
    · rw [if_pos h2]
      rw [Int64.lt_iff_toInt_lt, em, ed] at h2
      by_cases h3 : 0 < d
      · rw [if_pos h3, if_pos (show d < 10 by rw [Int64.lt_iff_toInt_lt, e10, ed]; omega)]
      · rw [if_neg h3, if_pos (show -d < 10 by rw [Int64.lt_iff_toInt_lt, e10, en]; omega)]
    · rw [if_neg h2]
      rw [Int64.lt_iff_toInt_lt, em, ed] at h2
      rw [if_neg (show ¬ 0 < d by rw [Int64.lt_iff_toInt_lt, e0, ed]; omega), if_neg (show ¬ -d < 10 by rw [Int64.lt_iff_toInt_lt, e10, en]; omega)]
/-- the number that the loop divides -/
theorem r_pi {p i e t : Int32} (hp : 0 ≤ p.toInt ∧ p.toInt ≤ 100) (hi : 0 ≤ i.toInt ∧ i.toInt ≤ 100) (he : -20000 ≤ e.toInt ∧ e.toInt ≤ 20000) (ht : -10000 ≤ t.toInt ∧ t.toInt ≤ 10000) : -3000000 ≤ (p * e + i * t).toInt ∧ (p * e + i * t).toInt ≤ 3000000 := by
  have b1 : -2000000 ≤ p.toInt * e.toInt ∧ p.toInt * e.toInt ≤ 2000000 := by
    constructor
    · have h1 : p.toInt * (-20000) ≤ p.toInt * e.toInt := Int.mul_le_mul_of_nonneg_left he.1 hp.1
      omega
    · have h1 : p.toInt * e.toInt ≤ p.toInt * 20000 := Int.mul_le_mul_of_nonneg_left he.2 hp.1
      omega
  have b2 : -1000000 ≤ i.toInt * t.toInt ∧ i.toInt * t.toInt ≤ 1000000 := by
    constructor
    · have h1 : i.toInt * (-10000) ≤ i.toInt * t.toInt := Int.mul_le_mul_of_nonneg_left ht.1 hi.1
      omega
    · have h1 : i.toInt * t.toInt ≤ i.toInt * 10000 := Int.mul_le_mul_of_nonneg_left ht.2 hi.1
      omega
  have m1 : (p * e).toInt = p.toInt * e.toInt := by rw [Int32.toInt_mul, r_bm (by omega) (by omega)]
  have m2 : (i * t).toInt = i.toInt * t.toInt := by rw [Int32.toInt_mul, r_bm (by omega) (by omega)]
  rw [Int32.toInt_add, m1, m2, r_bm (by omega) (by omega)]
  omega
