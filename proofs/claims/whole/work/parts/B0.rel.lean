/-! the relation between the class's cells I and the model's rows J -/
def r_sc (I J : xI) (made : Nat) : Prop := I 1 4 = nI made ∧ J 68 12 = nI made ∧ I 1 5 = J 68 32 ∧ I 1 6 = J 68 33 ∧ I 1 7 = J 68 34 ∧ I 1 8 = J 68 35 ∧ I 1 9 = J 68 36 ∧ I 1 10 = J 68 37 ∧ I 1 11 = J 68 39 ∧ I 1 12 = J 68 38
def r_rg (J : xI) : Prop := (J 68 32 = -1 ∨ ∃ h, h < 6 ∧ J 68 32 = nI h) ∧ (∃ p, p ≤ 3 ∧ J 68 33 = nI p) ∧ (∃ k, k ≤ 2 ∧ J 68 34 = nI k) ∧ (∃ k, k ≤ 2 ∧ J 68 35 = nI k ∧ (J 68 33 = 2 → k ≤ 1))
def r_nd (I J : xI) (n : Nat) : Prop := I (8 + 10 * n) 0 = nI n ∧ I (8 + 10 * n) 5 = J 69 n ∧ I (8 + 10 * n) 6 = J 70 n ∧ I (8 + 10 * n) 7 = J 71 n ∧ I (8 + 10 * n) 8 = J 72 n ∧ I (8 + 10 * n) 9 = J 73 n ∧ I (8 + 10 * n) 10 = J 74 n ∧ I (8 + 10 * n) 13 = J 95 n ∧ I (8 + 10 * n) 14 = J 96 n ∧ I (8 + 10 * n) 15 = J 97 n ∧ I (8 + 10 * n) 16 = J 98 n
def r_lo (I J : xI) (n : Nat) : Prop := I (8 + 10 * n + 4) 0 = J 75 n ∧ I (8 + 10 * n + 4) 1 = J 76 n ∧ I (8 + 10 * n + 4) 2 = J 77 n ∧ I (8 + 10 * n + 4) 3 = J 78 n
def r_nr (J : xI) (n : Nat) : Prop := (J 69 n = 0 ∨ J 69 n = 1) ∧ (∃ x, x < 6 ∧ J 70 n = nI x) ∧ (∃ x, x < 6 ∧ J 71 n = nI x) ∧ s_out (J 74 n) (-10000) 10000 = 0 ∧ s_out (J 75 n) (-10000) 10000 = 0 ∧ s_out (J 76 n) 0 100 = 0 ∧ s_out (J 77 n) 0 100 = 0 ∧ s_out (J 78 n) (-10000) 10000 = 0
def r_ou (I J : xI) (n : Nat) : Prop := ∀ l, l < 16 → I (8 + 10 * n + 2) l = J 79 (17 * n + (l + 1)) ∧ I (8 + 10 * n + 3) l = J 80 (17 * n + (l + 1))
def r_rq (I J : xI) (P : xP) (z r : Nat) : Prop := P 3 r = some (101 + r) ∧ x_at 2 z (101 + r) ∧ I (101 + r) 0 = nI r ∧ I (101 + r) 1 = J 82 r ∧ I (101 + r) 2 = s_sv (J 83 r) ∧ I (101 + r) 3 = s_ob (J 83 r) ∧ I (101 + r) 4 = s_lv (J 83 r) ∧ I (101 + r) 5 = J 84 r ∧ I (101 + r) 6 = J 85 r ∧ I (101 + r) 7 = J 86 r ∧ I (101 + r) 8 = J 87 r ∧ I (101 + r) 10 = J 89 r ∧ (¬ J 87 r = 0 → (I (101 + r) 9 = 0 ↔ ¬ J 88 r = 0))
def r_rr (J : xI) (r : Nat) : Prop := (∃ f, f < 6 ∧ J 81 r = nI f) ∧ (∃ t, t < 6 ∧ J 82 r = nI t) ∧ s_out (J 83 r) 0 2047 = 0 ∧ (J 88 r = 0 ∨ J 88 r = 1) ∧ (J 87 r = 0 ∨ J 87 r = 1) ∧ (J 85 r = 0 → ∃ k, k ≤ 2 ∧ J 86 r = nI k)
def r_r0 (J : xI) (made : Nat) : Prop := ∀ r, made ≤ r → J 85 r = 0 ∧ J 86 r = 0 ∧ J 87 r = 0 ∧ J 88 r = 0 ∧ J 89 r = 0
def r_q (J : xI) (made n : Nat) : List Nat := (List.range made).filter (fun r => decide (J 81 r = nI n ∧ J 85 r = 0))
def r_qu (I J : xI) (P : xP) (made n : Nat) : Prop := (r_q J made n).length ≤ 4 ∧ I (8 + 10 * n) 11 = nI (r_q J made n).length ∧ ∀ k r, (r_q J made n)[k]? = some r → P (8 + 10 * n + 5) k = some (101 + r)
def r_s (J : xI) (S n : Nat) : List Nat := (List.range S).filter (fun q => decide (J 90 q = nI n))
def r_sb (I J : xI) (S n : Nat) : Prop := (r_s J S n).length ≤ 3 ∧ I (8 + 10 * n) 12 = nI (r_s J S n).length ∧ ∀ k q, (r_s J S n)[k]? = some q → I (8 + 10 * n + 7 + k) 0 = J 91 q ∧ I (8 + 10 * n + 7 + k) 1 = J 92 q ∧ I (8 + 10 * n + 7 + k) 2 = J 93 q ∧ I (8 + 10 * n + 7 + k) 3 = J 94 q
def r_sr (J : xI) (S : Nat) : Prop := J 68 22 = nI S ∧ S ≤ 18 ∧ (∀ q, q < S → (∃ k, k < 6 ∧ J 90 q = nI k) ∧ (∃ w, w < 6 ∧ J 91 q = nI w) ∧ (J 92 q = 0 ∨ J 92 q = 1)) ∧ ∀ j, J 94 j = 0 ∨ J 94 j = 1
def r_fr (I J : xI) : Prop := (∀ k, k < 18 → I 5 k = J 99 k ∧ I 7 k = J 99 (18 + k)) ∧ I 4 1 = J 100 0 ∧ I 6 1 = J 100 1 ∧ (∃ s, s ≤ 18 ∧ J 100 0 = nI s) ∧ ∃ s, s ≤ 18 ∧ J 100 1 = nI s
def r_sp (I J : xI) : Prop := ∃ w s mk s0 s1 : Nat, w ≤ 1 ∧ s < 18 ∧ mk ≤ 255 ∧ s0 < 18 ∧ s1 < 18 ∧ J 68 42 = nI w ∧ J 68 43 = nI s ∧ J 68 44 = nI mk ∧ I 4 2 = nI s0 ∧ I 6 2 = nI s1 ∧ I 4 3 = (if w = 0 then nI mk else 0) ∧ I 6 3 = (if w = 1 then nI mk else 0) ∧ (w = 0 → mk = 0 ∨ s0 = s) ∧ (w = 1 → mk = 0 ∨ s1 = s)
def Rel (z : Nat) (I J : xI) (P : xP) (made S : Nat) : Prop := (z = 101 + made ∧ made ≤ 60 ∧ x_bus z P ∧ x_mdl z P) ∧ (r_sc I J made ∧ r_rg J) ∧ (∀ n, n < 6 → r_nd I J n ∧ r_lo I J n ∧ r_nr J n ∧ r_ou I J n ∧ r_qu I J P made n ∧ r_sb I J S n) ∧ ((∀ r, r < made → r_rq I J P z r ∧ r_rr J r) ∧ r_r0 J made) ∧ r_sr J S ∧ r_fr I J ∧ r_sp I J
/-- rows of the model in the class's memory don't matter -/
theorem Rel.congr {z : Nat} {I I' J : xI} {P : xP} {made S : Nat} (h : Rel z I J P made S) (he : ∀ a, (a < 68 ∨ 100 < a) → I' a = I a) : Rel z I' J P made S := by
  obtain ⟨h1, ⟨h2, h3⟩, h4, ⟨h5, h6⟩, h7, h8, h9⟩ := h
  have g : ∀ a, a < 68 → I' a = I a := fun a ha => he a (Or.inl ha)
  refine ⟨h1, ⟨?_, h3⟩, fun n hn => ?_, ⟨fun r hr => ?_, h6⟩, h7, ?_, ?_⟩
  · unfold r_sc
    rw [g 1 (by omega)]
    exact h2
  · obtain ⟨a1, a2, a3, a4, a5, a6⟩ := h4 n hn
    refine ⟨?_, ?_, a3, ?_, ?_, ?_⟩
    · unfold r_nd
      rw [g _ (by omega)]
      exact a1
    · unfold r_lo
      rw [g _ (by omega)]
      exact a2
    · intro l hl
      rw [g _ (by omega), g _ (by omega)]
      exact a4 l hl
    · obtain ⟨b1, b2, b3⟩ := a5
      exact ⟨b1, by rw [g _ (by omega)]; exact b2, b3⟩
    · obtain ⟨b1, b2, b3⟩ := a6
      refine ⟨b1, by rw [g _ (by omega)]; exact b2, fun k q hq => ?_⟩
      have hk : k < (r_s J S n).length := (List.getElem?_eq_some_iff.mp hq).1
      rw [g _ (by omega)]
      exact b3 k q hq
  · obtain ⟨a1, a2⟩ := h5 r hr
    refine ⟨?_, a2⟩
    unfold r_rq
    rw [he _ (Or.inr (by omega))]
    exact a1
  · obtain ⟨b1, b2, b3, b4⟩ := h8
    refine ⟨fun k hk => ?_, by rw [g _ (by omega)]; exact b2, by rw [g _ (by omega)]; exact b3, b4⟩
    rw [g _ (by omega), g _ (by omega)]
    exact b1 k hk
  · unfold r_sp
    rw [g 4 (by omega), g 6 (by omega)]
    exact h9
/-! small equalities -/
theorem r_isN (n : Int32) : k_within n 0 5 = s_isN n := by
  unfold k_within s_isN
  by_cases h1 : n < 0
  · rw [if_pos h1, if_pos h1]
  · rw [if_neg h1, if_neg h1]
    have e : (5 < n) ↔ (6 ≤ n) := by
      rw [Int32.lt_iff_toInt_lt, Int32.le_iff_toInt_le, show (5 : Int32).toInt = 5 by decide, show (6 : Int32).toInt = 6 by decide]
      omega
    by_cases h2 : 6 ≤ n
    · rw [if_pos h2, if_pos (e.mpr h2)]
    · rw [if_neg h2, if_neg (fun q => h2 (e.mp q))]
theorem r_out (v lo hi : Int32) : k_within v lo hi = 0 ↔ ¬ s_out v lo hi = 0 := by
  unfold k_within s_out
  by_cases h1 : v < lo
  · rw [if_pos h1, if_pos h1]
    exact ⟨fun _ => by decide, fun _ => rfl⟩
  · rw [if_neg h1, if_neg h1]
    by_cases h2 : hi < v
    · have h3 : ¬ v ≤ hi := by
        rw [Int32.lt_iff_toInt_lt] at h2
        rw [Int32.le_iff_toInt_le]
        omega
      rw [if_pos h2, if_neg h3]
      exact ⟨fun _ => by decide, fun _ => rfl⟩
    · have h3 : v ≤ hi := by
        rw [Int32.lt_iff_toInt_lt] at h2
        rw [Int32.le_iff_toInt_le]
        omega
      rw [if_neg h2, if_pos h3]
      exact ⟨fun q => absurd q (by decide), fun q => absurd rfl q⟩
theorem r_wait (J : xI) (n : Nat) : ∀ made, s_wait J (nI n) made = nI (r_q J made n).length
  | 0 => rfl
  | made + 1 => by
    have ih := r_wait J n made
    unfold s_wait
    unfold r_q at ih ⊢
    rw [List.range_succ, List.filter_append, List.length_append]
    by_cases h1 : J 81 made = nI n
    · by_cases h2 : J 85 made = 0
      · rw [if_pos h1, if_pos h2, ih, ← nI_succ, List.filter_cons_of_pos (by simpa using ⟨h1, h2⟩)]
        rfl
      · rw [if_pos h1, if_neg h2, ih, List.filter_cons_of_neg (by simpa using fun _ => h2)]
        rfl
    · rw [if_neg h1, ih, List.filter_cons_of_neg (by simpa using fun e => absurd e h1)]
      rfl
theorem r_sof (J : xI) (n : Nat) : ∀ S, s_sof J (nI n) S = nI (r_s J S n).length
  | 0 => rfl
  | S + 1 => by
    have ih := r_sof J n S
    unfold s_sof
    unfold r_s at ih ⊢
    rw [List.range_succ, List.filter_append, List.length_append]
    by_cases h1 : J 90 S = nI n
    · rw [if_pos h1, ih, ← nI_succ, List.filter_cons_of_pos (by simpa using h1)]
      rfl
    · rw [if_neg h1, ih, List.filter_cons_of_neg (by simpa using h1)]
      rfl
theorem r_cur {I J : xI} {n : Nat} (h : r_ou I J n) : ∀ q l, q + l = 16 → k_cur (I (8 + 10 * n + 2)) (I (8 + 10 * n + 3)) q l = s_oof J n q (l + 1)
  | 0, _, _ => rfl
  | q + 1, l, hl => by
    unfold k_cur s_oof
    rw [(h l (by omega)).1, (h l (by omega)).2]
    by_cases h1 : J 80 (17 * n + (l + 1)) = 0
    · rw [if_pos h1, if_pos h1]
      exact r_cur h q (l + 1) (by omega)
    · rw [if_neg h1, if_neg h1]
theorem r_ov {I J : xI} {n : Nat} (hn : n ≤ 5) (h1 : r_nd I J n) (h2 : r_lo I J n) (h3 : r_ou I J n) (ob : Int32) : k_ov I (8 + 10 * n) ob = s_val J (nI n) ob := by
  have hN : ¬ s_isN (nI n) = 0 := by
    rcases (show n = 0 ∨ n = 1 ∨ n = 2 ∨ n = 3 ∨ n = 4 ∨ n = 5 by omega) with rfl | rfl | rfl | rfl | rfl | rfl <;> decide
  unfold k_ov s_val
  rw [if_neg hN, k_tn_nI (by omega), r_cur h3 16 0 rfl, h1.2.2.2.2.2.2.1, h2.1]
