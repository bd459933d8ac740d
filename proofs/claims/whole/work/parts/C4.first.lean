/-! the first state -/
def k_I0 : xI := s_iI (k_bNI (k_bI0 (fun _ _ => 0)) 6)
def k_P0 : xP := s_iP (k_bNP (k_bP0 (fun _ _ => none)) 6)
theorem k_P0_n1 : ∀ n, n < 6 → (x_at 6 101 (8 + 10 * n) ∧ x_at 4 101 (8 + 10 * n + 1) ∧ x_ar 100 16 101 (8 + 10 * n + 2)) ∧ (x_ar 101 16 101 (8 + 10 * n + 3) ∧ x_at 5 101 (8 + 10 * n + 4)) ∧ x_ar 103 4 101 (8 + 10 * n + 5) ∧ x_ar 104 3 101 (8 + 10 * n + 6) := by
  unfold x_at x_ar
  decide +kernel
theorem k_P0_n2 : ∀ n, n < 6 → ∀ k, k < 3 → x_at 3 101 (8 + 10 * n + 7 + k) := by
  unfold x_at
  decide +kernel
theorem k_P0_n3 : ∀ n, n < 6 → k_P0 (8 + 10 * n) 1 = some (8 + 10 * n + 1) ∧ k_P0 (8 + 10 * n + 1) 0 = some (8 + 10 * n + 2) ∧ k_P0 (8 + 10 * n + 1) 1 = some (8 + 10 * n + 3) ∧ k_P0 (8 + 10 * n) 2 = some (8 + 10 * n + 4) ∧ k_P0 (8 + 10 * n) 3 = some (8 + 10 * n + 5) ∧ k_P0 (8 + 10 * n) 4 = some (8 + 10 * n + 6) := by
  decide +kernel
theorem k_P0_n4 : ∀ n, n < 6 → ∀ k, k < 3 → k_P0 (8 + 10 * n + 6) k = some (8 + 10 * n + 7 + k) := by
  decide +kernel
theorem k_P0_bus : x_bus 101 k_P0 := by
  refine ⟨?_, ?_, ?_, fun n hn => ?_⟩
  · unfold x_at x_ar
    decide +kernel
  · decide +kernel
  · decide +kernel
  · obtain ⟨⟨a1, a2, a3⟩, ⟨a4, a5⟩, a6, a7⟩ := k_P0_n1 n hn
    exact ⟨⟨a1, a2, a3, a4, a5, a6, a7⟩, k_P0_n2 n hn, k_P0_n3 n hn, k_P0_n4 n hn⟩
theorem k_P0_mdl : x_mdl 101 k_P0 := by
  unfold x_mdl
  decide +kernel
theorem k_I0_nd : ∀ n, n < 6 → r_nd k_I0 k_I0 n ∧ r_lo k_I0 k_I0 n := by
  unfold r_nd r_lo
  decide +kernel
theorem k_I0_nr : ∀ n, n < 6 → (k_I0 69 n = 0) ∧ k_I0 70 n = nI n ∧ k_I0 71 n = nI n ∧ s_out (k_I0 74 n) (-10000) 10000 = 0 ∧ s_out (k_I0 75 n) (-10000) 10000 = 0 ∧ s_out (k_I0 76 n) 0 100 = 0 ∧ s_out (k_I0 77 n) 0 100 = 0 ∧ s_out (k_I0 78 n) (-10000) 10000 = 0 := by
  decide +kernel
theorem k_I0_ou : ∀ n, n < 6 → ∀ l, l < 16 → k_I0 (8 + 10 * n + 2) l = k_I0 79 (17 * n + (l + 1)) ∧ k_I0 (8 + 10 * n + 3) l = k_I0 80 (17 * n + (l + 1)) := by
  decide +kernel
theorem k_I0_11 : ∀ n, n < 6 → k_I0 (8 + 10 * n) 11 = nI 0 ∧ k_I0 (8 + 10 * n) 12 = nI 0 := by
  decide +kernel
theorem k_I0_rel : Rel 101 k_I0 k_I0 k_P0 0 0 := by
  refine ⟨⟨rfl, by omega, k_P0_bus, k_P0_mdl⟩, ⟨?_, Or.inl (by decide +kernel), ⟨0, by omega, by decide +kernel⟩, ⟨0, by omega, by decide +kernel⟩, 0, by omega, by decide +kernel, fun _ => by omega⟩, fun n hn => ?_, ⟨fun r hr => absurd hr (by omega), fun r _ => ⟨rfl, rfl, rfl, rfl, rfl⟩⟩, ⟨by decide +kernel, by omega, fun q hq => absurd hq (by omega), fun j => Or.inl rfl⟩, ⟨by decide +kernel, by decide +kernel, by decide +kernel, ⟨0, by omega, by decide +kernel⟩, 0, by omega, by decide +kernel⟩, ?_⟩
  · unfold r_sc
    decide +kernel
  · obtain ⟨a1, a2, a3, a4, a5, a6, a7, a8⟩ := k_I0_nr n hn
    exact ⟨(k_I0_nd n hn).1, (k_I0_nd n hn).2, ⟨Or.inl a1, ⟨n, hn, a2⟩, ⟨n, hn, a3⟩, a4, a5, a6, a7, a8⟩, k_I0_ou n hn, ⟨by show (0 : Nat) ≤ 4; omega, (k_I0_11 n hn).1, fun k r h => by cases h⟩, ⟨by show (0 : Nat) ≤ 3; omega, (k_I0_11 n hn).2, fun k r h => by cases h⟩⟩
  · exact ⟨0, 0, 0, 0, 0, by omega, by omega, by omega, by omega, by omega, by decide +kernel, by decide +kernel, by decide +kernel, by decide +kernel, by decide +kernel, by decide +kernel, by decide +kernel, fun _ => Or.inl rfl, fun _ => Or.inl rfl⟩
