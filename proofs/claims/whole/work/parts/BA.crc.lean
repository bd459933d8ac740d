/-! the checks of class and model -/
theorem nI_xor (a b : Nat) : nI a ^^^ nI b = nI (a ^^^ b) := by
  apply Int32.toBitVec_inj.mp
  apply BitVec.eq_of_toNat_eq
  show (BitVec.ofNat 32 a ^^^ BitVec.ofNat 32 b).toNat = (BitVec.ofNat 32 (a ^^^ b)).toNat
  rw [BitVec.toNat_xor, BitVec.toNat_ofNat, BitVec.toNat_ofNat, BitVec.toNat_ofNat, Nat.xor_mod_two_pow]
theorem bit_iff (c y : Int32) : (c ^^^ y) &&& 1 = 0 ↔ c &&& 1 = y &&& 1 := by
  have h1 : ∀ x : Int32, x &&& 1 = nI (x.toBitVec.toNat % 2) := fun x => pk_and x 1 (by decide)
  rw [h1, h1, h1]
  have e : (c ^^^ y).toBitVec.toNat = c.toBitVec.toNat ^^^ y.toBitVec.toNat := by
    rw [← BitVec.toNat_xor]
    rfl
  rw [e, show (0 : Int32) = nI 0 by decide, nI_eq (by omega) (by omega), nI_eq (by omega) (by omega)]
  have e2 : (c.toBitVec.toNat ^^^ y.toBitVec.toNat) % 2 = (c.toBitVec.toNat % 2) ^^^ (y.toBitVec.toNat % 2) := Nat.xor_mod_two_pow (n := 1)
  rw [e2]
  rcases Nat.mod_two_eq_zero_or_one c.toBitVec.toNat with h | h <;> rcases Nat.mod_two_eq_zero_or_one y.toBitVec.toNat with h' | h' <;> rw [h, h'] <;> decide
section partBA
variable {w mk n k : Nat} {b : Int32}
theorem crc_bit (hw : w ≤ 16) (hm : mk < 2 ^ w) (hn : n < 2 ^ w) : ∃ n', n' < 2 ^ w ∧ k_bit (nI mk) b (nI n) k = nI n' ∧ s_gb (nI mk) b (nI n) k = nI n' := by
  have hw2 : 2 ^ w ≤ 65536 := Nat.pow_le_pow_right (by decide) hw
  have e1 : nI n >>> (1 &&& 31 : Int32) = nI (n / 2) := pk_shrN (by omega) _ 1 (by decide)
  have e2 : nI n / 2 = nI (n / 2) := pk_div (d := 2) (by omega) (by omega) (by omega)
  unfold k_bit s_gb
  rw [e1, e2]
  by_cases hc : (nI n ^^^ b >>> (nI k &&& 31)) &&& 1 = 0
  · exact ⟨n / 2, by omega, if_pos hc, if_pos ((bit_iff _ _).mp hc)⟩
  · exact ⟨n / 2 ^^^ mk, Nat.xor_lt_two_pow (by omega) hm, (if_neg hc).trans (nI_xor _ _), (if_neg (fun q => hc ((bit_iff _ _).mpr q))).trans (nI_xor _ _)⟩
theorem crc_byte (hw : w ≤ 16) (hm : mk < 2 ^ w) (hn : n < 2 ^ w) : ∀ k, ∃ n', n' < 2 ^ w ∧ k_byte (nI mk) b (nI n) k = nI n' ∧ s_gy (nI mk) b (nI n) k = nI n'
  | 0 => ⟨n, hn, rfl, rfl⟩
  | k + 1 => by
    obtain ⟨n', h1, h2, h3⟩ := crc_byte hw hm hn k
    unfold k_byte s_gy
    rw [h2, h3]
    exact crc_bit hw hm h1
theorem crc_all {f g : Nat → Int32} {fr : Nat} (hw : w ≤ 16) (hm : mk < 2 ^ w) (hn : n < 2 ^ w) : ∀ k, (∀ i, i < k → f (fr + i) = g (fr + i)) → ∃ n', n' < 2 ^ w ∧ k_crc (nI mk) f fr (nI n) k = nI n' ∧ s_cr (nI mk) g fr (nI n) k = nI n'
  | 0, _ => ⟨n, hn, rfl, rfl⟩
  | k + 1, h => by
    obtain ⟨n', h1, h2, h3⟩ := crc_all hw hm hn k (fun i hi => h i (by omega))
    unfold k_crc s_cr
    rw [h2, h3, h k (by omega)]
    exact crc_byte hw hm h1 8
theorem hc_eq {f g : Nat → Int32} (h : ∀ i, i < 5 → f (2 + i) = g (2 + i)) : k_hc f = 255 - s_cr 129 g 2 255 5 := by
  obtain ⟨n', h1, h2, h3⟩ := crc_all (w := 8) (mk := 129) (n := 255) (by decide) (by decide) (by decide) 5 h
  unfold k_hc
  rw [show (129 : Int32) = nI 129 by decide, show (255 : Int32) = nI 255 by decide, h2, h3]
theorem dc_eq {f g : Nat → Int32} (h : ∀ i, i < 8 → f (8 + i) = g (8 + i)) : ∃ m, m < 65536 ∧ k_dc f = nI m ∧ 65535 - s_cr 33800 g 8 65535 8 = nI m := by
  obtain ⟨n', h1, h2, h3⟩ := crc_all (w := 16) (mk := 33800) (n := 65535) (by decide) (by decide) (by decide) 8 h
  unfold k_dc
  refine ⟨65535 - n', by omega, ?_, ?_⟩
  · rw [show (33800 : Int32) = nI 33800 by decide, show (65535 : Int32) = nI 65535 by decide, h2, pk_sub (by omega)]
  · rw [show (33800 : Int32) = nI 33800 by decide, show (65535 : Int32) = nI 65535 by decide, h3, pk_sub (by omega)]
theorem hc_ne6 : ∀ n, n < 256 → ¬ k_byte 129 0 (nI n) 8 = k_byte 129 8 (nI n) 8 := by decide +kernel
theorem hc_six {f g : Nat → Int32} (h : ∀ i, i < 4 → f (2 + i) = g (2 + i)) (h0 : f 6 = 0) (h8 : g 6 = 8) : ¬ k_hc f = k_hc g := fun e => by
  obtain ⟨n', h1, h2, -⟩ := crc_all (f := f) (g := g) (fr := 2) (w := 8) (mk := 129) (n := 255) (by decide) (by decide) (by decide) 4 h
  obtain ⟨n2, h4, h5, h6⟩ := crc_all (f := g) (g := g) (fr := 2) (w := 8) (mk := 129) (n := 255) (by decide) (by decide) (by decide) 4 (fun _ _ => rfl)
  obtain ⟨n3, -, h7, h9⟩ := crc_all (f := f) (g := g) (fr := 2) (w := 8) (mk := 129) (n := 255) (by decide) (by decide) (by decide) 4 h
  have e2 : n' = n2 := by
    have t1 : nI n3 = nI n' := h7.symm.trans h2
    have t2 : nI n3 = nI n2 := h9.symm.trans h6
    exact (nI_eq (by omega) (by omega)).mp (t1.symm.trans t2)
  subst e2
  have e3 : k_crc (nI 129) f 2 (nI 255) 5 = k_byte 129 0 (nI n') 8 := by
    unfold k_crc
    rw [h2, show f (2 + 4) = 0 from h0]
    rfl
  have e4 : k_crc (nI 129) g 2 (nI 255) 5 = k_byte 129 8 (nI n') 8 := by
    unfold k_crc
    rw [h5, show g (2 + 4) = 8 from h8]
    rfl
  have e5 : (255 : Int32) - k_byte 129 0 (nI n') 8 = 255 - k_byte 129 8 (nI n') 8 := by
    rw [← e3, ← e4]
    exact e
  have e6 : ∀ x y : Int32, 255 - x = 255 - y → x = y := fun x y q => by
    have q2 := congrArg (fun t => 255 - t) q
    have q3 : ∀ t : Int32, 255 - (255 - t) = t := fun t => by
      rw [Int32.sub_eq_add_neg, Int32.neg_sub, Int32.sub_eq_add_neg, Int32.add_comm t, ← Int32.add_assoc, ← Int32.sub_eq_add_neg, Int32.sub_self, Int32.zero_add]
    simpa only [q3] using q2
  exact hc_ne6 n' (by omega) (e6 _ _ e5)
theorem shl8 (x : Int32) : x <<< (8 &&& 31 : Int32) = 256 * x := by
  apply Int32.toBitVec_inj.mp
  apply BitVec.eq_of_toNat_eq
  rw [pk_shl x _ 8 (by decide)]
  show _ = (BitVec.ofNat 32 256 * x.toBitVec).toNat
  rw [BitVec.toNat_mul, BitVec.toNat_ofNat]
  omega
theorem low8 {m : Nat} (hm : m < 65536) : nI m &&& 255 = nI m - nI m / 256 * 256 := by
  rw [show (255 : Int32) = nI 255 by decide, pk_andN (by omega) 8 (by decide), show (256 : Int32) = nI 256 by decide, pk_rem (by omega) (by omega) (by omega)]
theorem high8 {m : Nat} (hm : m < 65536) : nI m >>> (8 &&& 31 : Int32) = nI m / 256 := by
  rw [pk_shrN (by omega) _ 8 (by decide), show (256 : Int32) = nI 256 by decide, pk_div (by omega) (by omega) (by omega)]
end partBA
