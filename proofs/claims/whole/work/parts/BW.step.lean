/-! a whole step: alike -/
section partBW
variable {W : xI} {z : Nat} {I I' J J' : xI} {P : xP} {made S s f h n k c r t : Nat}
theorem Rel.s43 (q : Rel z I J P made S) : ∃ s, s < 18 ∧ J 68 43 = nI s := by
  obtain ⟨w, s, mk, s0, s1, h1, h2, h3, h4, h5, h6, h7, -⟩ := q.2.2.2.2.2.2
  exact ⟨s, h2, h7⟩
theorem Rel.begin (q : Rel z I J P made S) (hs : s < 18) (es : J 68 43 = nI s) : St I z (k_bs I) (s_b J) P made S s 0 := by
  have hsp := q.2.2.2.2.2.2
  have hfr := q.2.2.2.2.2.1
  have q0 : St I z (x_up (x_up (x_up I 1 11 0) 4 1 0) 6 1 0) (x_up (x_up (x_up J 68 39 0) 100 0 0) 100 1 0) P made S s 0 := by
    refine ⟨q.co.congr (fun a k hak => ?_) (fun a k hak => ?_), ⟨?_, r_sp_d hsp (fun j hj => ⟨?_, ?_⟩) (fun j h1 h2 => ?_)⟩, ?_, ?_, ?_, hs, fun a k g1 g2 => ?_⟩
    · rw [x_up_ne (by omega), x_up_ne (by omega), x_up_ne (by omega)]
    · rw [x_up_ne (by omega), x_up_ne (by omega), x_up_ne (by omega)]
    · obtain ⟨f1, f2, f3, f4, f5⟩ := hfr
      refine ⟨fun k hk => ⟨?_, ?_⟩, ?_, ?_, ⟨0, by omega, ?_⟩, ⟨0, by omega, ?_⟩⟩
      · rw [x_up_ne (by omega), x_up_ne (by omega), x_up_ne (by omega), x_up_ne (by omega), x_up_ne (by omega), x_up_ne (by omega)]
        exact (f1 k hk).1
      · rw [x_up_ne (by omega), x_up_ne (by omega), x_up_ne (by omega), x_up_ne (by omega), x_up_ne (by omega), x_up_ne (by omega)]
        exact (f1 k hk).2
      · rw [x_up_ne (by omega), x_up_eq ⟨rfl, rfl⟩, x_up_ne (by omega), x_up_eq ⟨rfl, rfl⟩]
      · rw [x_up_eq ⟨rfl, rfl⟩, x_up_eq ⟨rfl, rfl⟩]
      · rw [x_up_ne (by omega), x_up_eq ⟨rfl, rfl⟩]
        rfl
      · rw [x_up_eq ⟨rfl, rfl⟩]
        rfl
    · rw [x_up_ne (by omega), x_up_ne (by omega), x_up_ne (by omega)]
    · rw [x_up_ne (by omega), x_up_ne (by omega), x_up_ne (by omega)]
    · rw [x_up_ne (by omega), x_up_ne (by omega), x_up_ne (by omega)]
    · rw [x_up_ne (by omega), x_up_ne (by omega), x_up_eq ⟨rfl, rfl⟩]
      rfl
    · rw [x_up_ne (by omega), x_up_ne (by omega), x_up_eq ⟨rfl, rfl⟩]
      rfl
    · rw [x_up_ne (by omega), x_up_ne (by omega), x_up_ne (by omega)]
      exact es
    · rw [x_up_ne (by omega), x_up_ne (by omega), x_up_ne (by omega)]
  have e10 : I 1 10 + 1 = x_up (x_up (x_up J 68 39 0) 100 0 0) 100 1 0 68 37 + 1 := by
    rw [x_up_ne (by omega), x_up_ne (by omega), x_up_ne (by omega), q.2.1.1.2.2.2.2.2.2.2.1]
  unfold k_bs s_b
  rw [e10, x_up_comm (I := I) (by omega), x_up_comm (I := x_up I 1 11 0) (by omega), x_up_comm (I := x_up (x_up I 1 11 0) 4 1 0) (by omega)]
  exact q0.s10
/-- a step forgets the spoil -/
theorem St.fs (q : St W z I J P made S s f) : St W z (k_fs I) (x_up J 68 44 0) P made S s f := by
  obtain ⟨h1, ⟨h2, h3⟩, t4, t5, t6, t7⟩ := q
  refine ⟨h1.congr (fun a k hak => k_fs_ne (by omega)) (fun a k hak => x_up_ne (by omega)), ⟨r_fr_c h2 (fun a j _ _ _ => k_fs_ne (by omega)) (fun a j _ _ => x_up_ne (by omega)), ?_⟩, (k_fs_ne (by omega)).trans t4, (x_up_ne (by omega)).trans t5, (x_up_ne (by omega)).trans t6, t7.1, fun a k g1 g2 => (k_fs_ne (by omega)).trans (t7.2 a k g1 g2)⟩
  obtain ⟨w, s9, mk, s0, s1, p1, p2, p3, p4, p5, d1, d2, d3, d4, d5, d6, d7, d8, d9⟩ := h3
  refine ⟨w, s9, 0, s0, s1, p1, p2, by omega, p4, p5, (x_up_ne (by omega)).trans d1, (x_up_ne (by omega)).trans d2, x_up_eq ⟨rfl, rfl⟩, (k_fs_ne (by omega)).trans d4, (k_fs_ne (by omega)).trans d5, ?_, ?_, fun _ => Or.inl rfl, fun _ => Or.inl rfl⟩
  · unfold k_fs
    rw [x_up_ne (by omega), x_up_eq ⟨rfl, rfl⟩]
    by_cases hw : w = 0
    · rw [if_pos hw]
      rfl
    · rw [if_neg hw]
  · unfold k_fs
    rw [x_up_eq ⟨rfl, rfl⟩]
    by_cases hw : w = 1
    · rw [if_pos hw]
      rfl
    · rw [if_neg hw]
theorem s_ctl_up68 {k : Nat} {v : Int32} : s_ctl (x_up J 68 k v) n = x_up (s_ctl J n) 68 k v := by
  have e : s_c2x (x_up J 68 k v) n = x_up (s_c2x J n) 68 k v := by
    have e1 : s_er (x_up J 68 k v) n = s_er J n := by
      unfold s_er
      rw [x_up_ne (by omega), x_up_ne (by omega)]
    have e2 : s_c1x (x_up J 68 k v) n = x_up (s_c1x J n) 68 k v := by
      unfold s_c1x
      rw [e1, x_up_ne (by omega), x_up_comm (by omega)]
    unfold s_c2x
    rw [e2, e1, x_up_ne (b := 76) (by omega), x_up_ne (b := 77) (by omega), x_up_ne (a := 68) (b := 78) (by omega), x_up_comm (a := 68) (b := 79) (by omega), x_up_comm (a := 68) (b := 80) (by omega)]
  unfold s_ctl
  rw [e, x_up_ne (by omega), x_up_ne (by omega), x_up_ne (by omega)]
  by_cases h0 : J 69 n = 0
  · rw [if_pos h0, if_pos h0]
  · rw [if_neg h0, if_neg h0]
    by_cases h1 : J 76 n = 0
    · rw [if_pos h1, if_pos h1]
      by_cases h2 : J 77 n = 0
      · rw [if_pos h2, if_pos h2]
      · rw [if_neg h2, if_neg h2]
    · rw [if_neg h1, if_neg h1]
theorem s_seA_up68 {k : Nat} {v : Int32} : ∀ n, s_seA (x_up J 68 k v) n = x_up (s_seA J n) 68 k v
  | 0 => rfl
  | n + 1 => by
    show s_ctl (s_seA (x_up J 68 k v) n) n = x_up (s_ctl (s_seA J n) n) 68 k v
    rw [s_seA_up68 n, s_ctl_up68]
theorem s_seB_up68 {k : Nat} {v : Int32} : ∀ n, s_seB (x_up J 68 k v) n = x_up (s_seB J n) 68 k v
  | 0 => rfl
  | n + 1 => by
    show s_dq (s_seB (x_up J 68 k v) n) n = x_up (s_dq (s_seB J n) n) 68 k v
    rw [s_seB_up68 n]
    unfold s_dq
    rw [s_val_up (by omega), x_up_ne (b := 69) (by omega), x_up_ne (b := 90) (by omega), x_up_ne (b := 92) (by omega), x_up_ne (b := 93) (by omega)]
    by_cases h0 : s_seB J n 69 (k_tn (s_seB J n 90 n)) = 0
    · rw [if_pos h0, if_pos h0]
    · rw [if_neg h0, if_neg h0, x_up_comm (by omega)]
theorem s_set_up68 {k m : Nat} {v : Int32} : s_set (x_up J 68 k v) m = x_up (s_set J m) 68 k v := by
  unfold s_set
  rw [s_seA_up68, s_seB_up68]
theorem s_set_68 {k m : Nat} : s_set J m 68 k = J 68 k := (s_seB_ne (by omega) m).trans (s_seA_ne (by omega) 6)
theorem sim_end (q : St W z I J P made S s f) : St W z (k_end I) (s_e (s_set J S)) P made S s f := by
  have q1 : St W z (x_up I 1 12 (I 1 12 + I 1 11)) (x_up J 68 38 (J 68 38 + J 68 39)) P made S s f := by
    rw [q.g pr_tot, show I 1 11 = J 68 39 from q.2.2.1.trans q.2.2.2.1.symm]
    exact q.s12
  have q2 := sim_set q1.fs
  unfold k_end s_e
  rw [s_set_up68, s_set_up68] at q2
  rw [s_set_68, s_set_68]
  exact q2
theorem St.rel (q : St W z I J P made S s f) : Rel z I J P made S := q.1.rel (q.2.2.1.trans q.2.2.2.1.symm) q.2.1.1 q.2.1.2
theorem sim_step (q : Rel z I J P made S) (hs : s < 18) (es : J 68 43 = nI s) (hH : 0 ≤ J 68 32 → J 68 32 = nI h ∧ h < 6) : ∃ S', (s_ma (s_b J) s h S made 68 22 = nI S' ∧ S' ≤ 18 ∧ ∀ q, q < S' → ∃ k, k < 6 ∧ s_ma (s_b J) s h S made 90 q = nI k) ∧ Rel z (k_stI I P) (s_e (s_set (s_ma (s_b J) s h S made) S')) (k_stP I P) made S' ∧ ∀ a k, 68 ≤ a → a ≤ 100 → k_stI I P a k = I a k := by
  have q1 := q.begin hs es
  have e32 : s_b J 68 32 = J 68 32 := s_b_ne (by omega) (by omega)
  obtain ⟨S', f, q2⟩ := sim_ma (h := h) q1 (by rw [e32]; exact hH)
  exact ⟨S', ⟨q2.sr.1, q2.sr.2.1, fun x hx => (q2.sr.2.2.1 x hx).1⟩, (sim_end q2).rel, (sim_end q2).2.2.2.2.2.2⟩
end partBW
