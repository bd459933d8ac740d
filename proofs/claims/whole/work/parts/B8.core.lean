/-! cells of the class that are cells of the model -/
def pr (made a k a' k' : Nat) : Prop := (a = 1 ∧ a' = 68 ∧ ((k + 27 = k' ∧ 5 ≤ k ∧ k ≤ 10) ∨ (k = 12 ∧ k' = 38))) ∨ (a = 8 + 10 * k' ∧ k' < 6 ∧ ((a' = k + 64 ∧ 5 ≤ k ∧ k ≤ 10) ∨ (a' = k + 82 ∧ 13 ≤ k ∧ k ≤ 16))) ∨ (a = 12 + 10 * k' ∧ k' < 6 ∧ a' = k + 75 ∧ k ≤ 3) ∨ ((a' = 79 ∨ a' = 80) ∧ a + 69 = a' + 10 * (k' / 17) ∧ k + 1 = k' % 17 ∧ k < 16 ∧ k' < 102) ∨ (a = 101 + k' ∧ k' < made ∧ ((k = 1 ∧ a' = 82) ∨ (a' = k + 79 ∧ 5 ≤ k ∧ k ≤ 8) ∨ (k = 10 ∧ a' = 89)))
section
variable {made n k l r : Nat}
theorem pr_sc (h : 5 ≤ k) (h' : k ≤ 10) : pr made 1 k 68 (k + 27) := Or.inl ⟨rfl, rfl, Or.inl ⟨rfl, h, h'⟩⟩
theorem pr_tot : pr made 1 12 68 38 := Or.inl ⟨rfl, rfl, Or.inr ⟨rfl, rfl⟩⟩
theorem pr_nd (hn : n < 6) (h : 5 ≤ k) (h' : k ≤ 10) : pr made (8 + 10 * n) k (k + 64) n := Or.inr (Or.inl ⟨rfl, hn, Or.inl ⟨rfl, h, h'⟩⟩)
theorem pr_no (hn : n < 6) (h : 13 ≤ k) (h' : k ≤ 16) : pr made (8 + 10 * n) k (k + 82) n := Or.inr (Or.inl ⟨rfl, hn, Or.inr ⟨rfl, h, h'⟩⟩)
theorem pr_lo (hn : n < 6) (h : k ≤ 3) : pr made (8 + 10 * n + 4) k (k + 75) n := Or.inr (Or.inr (Or.inl ⟨by omega, hn, rfl, h⟩))
theorem pr_79 (hn : n < 6) (hl : l < 16) : pr made (8 + 10 * n + 2) l 79 (17 * n + (l + 1)) := Or.inr (Or.inr (Or.inr (Or.inl ⟨Or.inl rfl, by omega, by omega, hl, by omega⟩)))
theorem pr_80 (hn : n < 6) (hl : l < 16) : pr made (8 + 10 * n + 3) l 80 (17 * n + (l + 1)) := Or.inr (Or.inr (Or.inr (Or.inl ⟨Or.inr rfl, by omega, by omega, hl, by omega⟩)))
theorem pr_r1 (hr : r < made) : pr made (101 + r) 1 82 r := Or.inr (Or.inr (Or.inr (Or.inr ⟨rfl, hr, Or.inl ⟨rfl, rfl⟩⟩)))
theorem pr_r5 (hr : r < made) (h : 5 ≤ k) (h' : k ≤ 8) : pr made (101 + r) k (k + 79) r := Or.inr (Or.inr (Or.inr (Or.inr ⟨rfl, hr, Or.inr (Or.inl ⟨rfl, h, h'⟩)⟩)))
theorem pr_r10 (hr : r < made) : pr made (101 + r) 10 89 r := Or.inr (Or.inr (Or.inr (Or.inr ⟨rfl, hr, Or.inr (Or.inr ⟨rfl, rfl⟩)⟩)))
end
theorem pr_inj {made a k a' k' b j b' j' : Nat} (h1 : pr made a k a' k') (h2 : pr made b j b' j') : (b = a ∧ j = k) ↔ (b' = a' ∧ j' = k') := by
  unfold pr at h1 h2
  rcases h1 with h1 | h1 | h1 | h1 | h1 <;> rcases h2 with h2 | h2 | h2 | h2 | h2 <;> omega
def Eq2 (made : Nat) (I J : xI) : Prop := ∀ a k a' k', pr made a k a' k' → I a k = J a' k'
theorem Eq2.up {made : Nat} {I J : xI} {a k a' k' : Nat} {v : Int32} (h : Eq2 made I J) (hp : pr made a k a' k') : Eq2 made (x_up I a k v) (x_up J a' k' v) := fun b j b' j' hq => by
  have e := pr_inj hp hq
  by_cases hc : b = a ∧ j = k
  · rw [x_up_eq hc, x_up_eq (e.mp hc)]
  · have hc' : ¬ (b' = a' ∧ j' = k') := fun q => hc (e.mpr q)
    rw [x_up_ne (by omega), x_up_ne (by omega)]
    exact h b j b' j' hq
def Co (z : Nat) (I J : xI) (P : xP) (made S : Nat) : Prop := (z = 101 + made ∧ made ≤ 60 ∧ x_bus z P ∧ x_mdl z P) ∧ Eq2 made I J ∧ (I 1 4 = nI made ∧ J 68 12 = nI made ∧ r_rg J) ∧ (∀ n, n < 6 → I (8 + 10 * n) 0 = nI n ∧ r_nr J n ∧ r_qu I J P made n ∧ r_sb I J S n) ∧ (∀ r, r < made → (P 3 r = some (101 + r) ∧ x_at 2 z (101 + r) ∧ I (101 + r) 0 = nI r ∧ I (101 + r) 2 = s_sv (J 83 r) ∧ I (101 + r) 3 = s_ob (J 83 r) ∧ I (101 + r) 4 = s_lv (J 83 r) ∧ (¬ J 87 r = 0 → (I (101 + r) 9 = 0 ↔ ¬ J 88 r = 0))) ∧ r_rr J r) ∧ r_r0 J made ∧ r_sr J S
section partB8
variable {W : xI} {z : Nat} {I I' J J' : xI} {P P' : xP} {made S n r s f : Nat}
theorem Rel.co (h : Rel z I J P made S) : Co z I J P made S := by
  obtain ⟨h1, ⟨h2, h3⟩, h4, ⟨h5, h6⟩, h7, h8, h9⟩ := h
  obtain ⟨t1, t2, t3, t4, t5, t6, t7, t8, t9, t10⟩ := h2
  refine ⟨h1, fun a k a' k' hp => ?_, ⟨t1, t2, h3⟩, fun n hn => ?_, fun r hr => ?_, h6, h7⟩
  · unfold pr at hp
    rcases hp with ⟨rfl, rfl, ⟨rfl, hp1, hp2⟩ | ⟨rfl, rfl⟩⟩ | ⟨rfl, hk, ⟨rfl, hp1, hp2⟩ | ⟨rfl, hp1, hp2⟩⟩ | ⟨rfl, hk, rfl, hp2⟩ | ⟨hp1, hp2, hp3, hp4, hp5⟩ | ⟨rfl, hk, ⟨rfl, rfl⟩ | ⟨rfl, hp1, hp2⟩ | ⟨rfl, rfl⟩⟩
    · match k, hp1, hp2 with
      | 5, _, _ => exact t3
      | 6, _, _ => exact t4
      | 7, _, _ => exact t5
      | 8, _, _ => exact t6
      | 9, _, _ => exact t7
      | 10, _, _ => exact t8
    · exact t10
    · obtain ⟨⟨b1, b2, b3, b4, b5, b6, b7, b8, b9, b10, b11⟩, -⟩ := h4 k' hk
      match k, hp1, hp2 with
      | 5, _, _ => exact b2
      | 6, _, _ => exact b3
      | 7, _, _ => exact b4
      | 8, _, _ => exact b5
      | 9, _, _ => exact b6
      | 10, _, _ => exact b7
    · obtain ⟨⟨b1, b2, b3, b4, b5, b6, b7, b8, b9, b10, b11⟩, -⟩ := h4 k' hk
      match k, hp1, hp2 with
      | 13, _, _ => exact b8
      | 14, _, _ => exact b9
      | 15, _, _ => exact b10
      | 16, _, _ => exact b11
      | k + 17, _, hp2 => exact absurd hp2 (by omega)
    · obtain ⟨-, ⟨b1, b2, b3, b4⟩, -⟩ := h4 k' hk
      rw [show 12 + 10 * k' = 8 + 10 * k' + 4 by omega]
      match k, hp2 with
      | 0, _ => exact b1
      | 1, _ => exact b2
      | 2, _ => exact b3
      | 3, _ => exact b4
    · obtain ⟨-, -, -, a4, -⟩ := h4 (k' / 17) (by omega)
      have a5 := a4 k hp4
      rw [show 17 * (k' / 17) + (k + 1) = k' by omega] at a5
      rcases hp1 with rfl | rfl
      · rw [show a = 8 + 10 * (k' / 17) + 2 by omega]
        exact a5.1
      · rw [show a = 8 + 10 * (k' / 17) + 3 by omega]
        exact a5.2
    · exact (h5 k' hk).1.2.2.2.1
    · obtain ⟨⟨b1, b2, b3, b4, b5, b6, b7, b8, b9, b10, b11, b12, b13⟩, -⟩ := h5 k' hk
      match k, hp1, hp2 with
      | 5, _, _ => exact b8
      | 6, _, _ => exact b9
      | 7, _, _ => exact b10
      | 8, _, _ => exact b11
    · exact (h5 k' hk).1.2.2.2.2.2.2.2.2.2.2.2.1
  · obtain ⟨a1, a2, a3, a4, a5, a6⟩ := h4 n hn
    exact ⟨a1.1, a3, a5, a6⟩
  · obtain ⟨⟨b1, b2, b3, b4, b5, b6, b7, b8, b9, b10, b11, b12, b13⟩, c⟩ := h5 r hr
    exact ⟨⟨b1, b2, b3, b5, b6, b7, b13⟩, c⟩
theorem Co.rel (h : Co z I J P made S) (h11 : I 1 11 = J 68 39) (h8 : r_fr I J) (h9 : r_sp I J) : Rel z I J P made S := by
  obtain ⟨h1, e, ⟨t1, t2, h3⟩, h4, h5, h6, h7⟩ := h
  refine ⟨h1, ⟨⟨t1, t2, e _ _ _ _ (pr_sc (k := 5) (by decide) (by decide)), e _ _ _ _ (pr_sc (k := 6) (by decide) (by decide)), e _ _ _ _ (pr_sc (k := 7) (by decide) (by decide)), e _ _ _ _ (pr_sc (k := 8) (by decide) (by decide)), e _ _ _ _ (pr_sc (k := 9) (by decide) (by decide)), e _ _ _ _ (pr_sc (k := 10) (by decide) (by decide)), h11, e _ _ _ _ pr_tot⟩, h3⟩, fun n hn => ?_, ⟨fun r hr => ?_, h6⟩, h7, h8, h9⟩
  · obtain ⟨a1, a2, a3, a4⟩ := h4 n hn
    exact ⟨⟨a1, e _ _ _ _ (pr_nd (k := 5) hn (by decide) (by decide)), e _ _ _ _ (pr_nd (k := 6) hn (by decide) (by decide)), e _ _ _ _ (pr_nd (k := 7) hn (by decide) (by decide)), e _ _ _ _ (pr_nd (k := 8) hn (by decide) (by decide)), e _ _ _ _ (pr_nd (k := 9) hn (by decide) (by decide)), e _ _ _ _ (pr_nd (k := 10) hn (by decide) (by decide)), e _ _ _ _ (pr_no (k := 13) hn (by decide) (by decide)), e _ _ _ _ (pr_no (k := 14) hn (by decide) (by decide)), e _ _ _ _ (pr_no (k := 15) hn (by decide) (by decide)), e _ _ _ _ (pr_no (k := 16) hn (by decide) (by decide))⟩, ⟨e _ _ _ _ (pr_lo (k := 0) hn (by decide)), e _ _ _ _ (pr_lo (k := 1) hn (by decide)), e _ _ _ _ (pr_lo (k := 2) hn (by decide)), e _ _ _ _ (pr_lo (k := 3) hn (by decide))⟩, a2, fun l hl => ⟨e _ _ _ _ (pr_79 hn hl), e _ _ _ _ (pr_80 hn hl)⟩, a3, a4⟩
  · obtain ⟨⟨b1, b2, b3, b5, b6, b7, b13⟩, c⟩ := h5 r hr
    exact ⟨⟨b1, b2, b3, e _ _ _ _ (pr_r1 hr), b5, b6, b7, e _ _ _ _ (pr_r5 (k := 5) hr (by decide) (by decide)), e _ _ _ _ (pr_r5 (k := 6) hr (by decide) (by decide)), e _ _ _ _ (pr_r5 (k := 7) hr (by decide) (by decide)), e _ _ _ _ (pr_r5 (k := 8) hr (by decide) (by decide)), e _ _ _ _ (pr_r10 hr), b13⟩, c⟩
theorem r_nr_d (h : r_nr J n) (hJ : ∀ a, 69 ≤ a → a ≤ 78 → J' a n = J a n) : r_nr J' n := by
  unfold r_nr
  rw [hJ 69 (by omega) (by omega), hJ 70 (by omega) (by omega), hJ 71 (by omega) (by omega), hJ 74 (by omega) (by omega), hJ 75 (by omega) (by omega), hJ 76 (by omega) (by omega), hJ 77 (by omega) (by omega), hJ 78 (by omega) (by omega)]
  exact h
theorem r_sp_d (h : r_sp I J) (hI : ∀ j, 2 ≤ j → I' 4 j = I 4 j ∧ I' 6 j = I 6 j) (hJ : ∀ j, 42 ≤ j → j ≤ 44 → J' 68 j = J 68 j) : r_sp I' J' := by
  unfold r_sp
  rw [(hI 2 (by omega)).1, (hI 3 (by omega)).1, (hI 2 (by omega)).2, (hI 3 (by omega)).2, hJ 42 (by omega) (by omega), hJ 43 (by omega) (by omega), hJ 44 (by omega) (by omega)]
  exact h
/-- frames, the sent count and the spoil don't matter to Co -/
theorem Co.congr (h : Co z I J P made S) (hI : ∀ a k, (a = 1 ∧ k ≠ 11 ∨ 7 < a ∧ a < 68 ∨ 100 < a) → I' a k = I a k) (hJ : ∀ a k, (a = 68 ∧ k < 39 ∨ 68 < a ∧ a < 99) → J' a k = J a k) : Co z I' J' P made S := by
  obtain ⟨h1, e, ⟨t1, t2, h3⟩, h4, h5, h6, h7⟩ := h
  refine ⟨h1, fun a k a' k' hp => ?_, ⟨?_, ?_, r_rg_d h3 (fun j _ => hJ _ _ (by omega))⟩, fun n hn => ?_, fun r hr => ?_, r_r0_c h6 (fun a j _ _ => hJ _ _ (by omega)), r_sr_c h7 (hJ _ _ (by omega)) (fun j => ⟨hJ _ _ (by omega), hJ _ _ (by omega), hJ _ _ (by omega), hJ _ _ (by omega), hJ _ _ (by omega)⟩)⟩
  · have := e _ _ _ _ hp
    unfold pr at hp
    rw [hI _ _ (by omega), hJ _ _ (by omega)]
    exact this
  · rw [hI _ _ (by omega)]
    exact t1
  · rw [hJ _ _ (by omega)]
    exact t2
  · obtain ⟨a1, a2, a3, a4⟩ := h4 n hn
    exact ⟨by rw [hI _ _ (by omega)]; exact a1, r_nr_d a2 (fun a _ _ => hJ _ _ (by omega)), r_qu_c a3 (hI _ _ (by omega)) (fun j _ => ⟨hJ _ _ (by omega), hJ _ _ (by omega)⟩), r_sb_c a4 hn (fun a k _ _ => hI _ _ (by omega)) (hI _ _ (by omega)) (fun j => ⟨hJ _ _ (by omega), hJ _ _ (by omega), hJ _ _ (by omega), hJ _ _ (by omega), hJ _ _ (by omega)⟩)⟩
  · obtain ⟨b, c⟩ := h5 r hr
    refine ⟨?_, r_rr_c c (fun a _ _ => hJ _ _ (by omega))⟩
    rw [hI _ 0 (by omega), hI _ 2 (by omega), hI _ 3 (by omega), hI _ 4 (by omega), hI _ 9 (by omega), hJ 83 _ (by omega), hJ 87 _ (by omega), hJ 88 _ (by omega)]
    exact b
theorem Co.up {a k a' k' : Nat} {v : Int32} (h : Co z I J P made S) (hp : pr made a k a' k') (ha : a' ≤ 80 ∨ 95 ≤ a') (hrg : a' = 68 → r_rg (x_up J a' k' v)) (hnr : 69 ≤ a' → a' ≤ 78 → r_nr (x_up J a' k' v) k') : Co z (x_up I a k v) (x_up J a' k' v) P made S := by
  obtain ⟨h1, e, ⟨t1, t2, h3⟩, h4, h5, h6, h7⟩ := h
  have hp' := hp
  unfold pr at hp'
  have g : (a' = 68 ∧ ((32 ≤ k' ∧ k' ≤ 38))) ∨ (69 ≤ a' ∧ a' ≤ 80) ∨ (95 ≤ a' ∧ a' ≤ 98) := by omega
  have gI : (a = 1 ∧ 5 ≤ k) ∨ (8 ≤ a ∧ a < 68 ∧ (a % 10 = 8 → k ≠ 0 ∧ k ≠ 11 ∧ k ≠ 12) ∧ (a % 10 = 8 ∨ a % 10 = 0 ∨ a % 10 = 1 ∨ a % 10 = 2)) := by omega
  clear hp'
  refine ⟨h1, e.up hp, ⟨(x_up_ne (by omega)).trans t1, (x_up_ne (by omega)).trans t2, ?_⟩, fun n hn => ?_, fun r hr => ?_, r_r0_c h6 (fun a j _ _ => x_up_ne (by omega)), r_sr_c h7 (x_up_ne (by omega)) (fun j => ⟨x_up_ne (by omega), x_up_ne (by omega), x_up_ne (by omega), x_up_ne (by omega), x_up_ne (by omega)⟩)⟩
  · by_cases h68 : a' = 68
    · exact hrg h68
    · exact r_rg_c h3 (fun j => x_up_ne (by omega))
  · obtain ⟨a1, a2, a3, a4⟩ := h4 n hn
    refine ⟨(x_up_ne (by omega)).trans a1, ?_, r_qu_c a3 (x_up_ne (by omega)) (fun j _ => ⟨x_up_ne (by omega), x_up_ne (by omega)⟩), r_sb_c a4 hn (fun a k _ _ => x_up_ne (by omega)) (x_up_ne (by omega)) (fun j => ⟨x_up_ne (by omega), x_up_ne (by omega), x_up_ne (by omega), x_up_ne (by omega), x_up_ne (by omega)⟩)⟩
    by_cases hc : 69 ≤ a' ∧ a' ≤ 78 ∧ n = k'
    · obtain ⟨c1, c2, rfl⟩ := hc
      exact hnr c1 c2
    · exact r_nr_d a2 (fun b _ _ => x_up_ne (by omega))
  · obtain ⟨b, c⟩ := h5 r hr
    refine ⟨?_, r_rr_c c (fun a _ _ => x_up_ne (by omega))⟩
    rw [x_up_ne (by omega), x_up_ne (by omega), x_up_ne (by omega), x_up_ne (by omega), x_up_ne (by omega), x_up_ne (by omega), x_up_ne (by omega), x_up_ne (by omega)]
    exact b
/-- within a step: f frames sent, s the place of the spoil -/
def St (W : xI) (z : Nat) (I J : xI) (P : xP) (made S s f : Nat) : Prop := Co z I J P made S ∧ (r_fr I J ∧ r_sp I J) ∧ (I 1 11 = nI f ∧ J 68 39 = nI f ∧ J 68 43 = nI s ∧ s < 18 ∧ ∀ a k, 68 ≤ a → a ≤ 100 → I a k = W a k)
theorem St.up {a k a' k' : Nat} {v : Int32} (h : St W z I J P made S s f) (hp : pr made a k a' k') (ha : a' ≤ 80 ∨ 95 ≤ a') (hrg : a' = 68 → r_rg (x_up J a' k' v)) (hnr : 69 ≤ a' → a' ≤ 78 → r_nr (x_up J a' k' v) k') : St W z (x_up I a k v) (x_up J a' k' v) P made S s f := by
  obtain ⟨h1, ⟨h2, h3⟩, h4, h5, h6⟩ := h
  have h1' := h1.up hp ha hrg hnr
  unfold pr at hp
  have g : (a' = 68 ∧ ((32 ≤ k' ∧ k' ≤ 38))) ∨ (69 ≤ a' ∧ a' ≤ 80) ∨ (95 ≤ a' ∧ a' ≤ 98) := by omega
  have gI : (a = 1 ∧ k ≠ 11) ∨ (8 ≤ a ∧ a < 68) := by omega
  clear hp
  exact ⟨h1', ⟨r_fr_c h2 (fun b j _ _ _ => x_up_ne (by omega)) (fun b j _ _ => x_up_ne (by omega)), r_sp_d h3 (fun j _ => ⟨x_up_ne (by omega), x_up_ne (by omega)⟩) (fun j _ _ => x_up_ne (by omega))⟩, (x_up_ne (by omega)).trans h4, (x_up_ne (by omega)).trans h5, (x_up_ne (by omega)).trans h6.1, h6.2.1, fun b j g1 g2 => (x_up_ne (by omega)).trans (h6.2.2 b j g1 g2)⟩
theorem St.f8 {v : Int32} (h : St W z I J P made S s f) (hn : n < 6) : St W z (x_up I (8 + 10 * n) 8 v) (x_up J 72 n v) P made S s f :=
  h.up (pr_nd (k := 8) hn (by decide) (by decide)) (by omega) (fun e => absurd e (by decide)) (fun c1 c2 => by
    have c := (h.1.2.2.2.1 n hn).2.1
    unfold r_nr at c ⊢
    rw [x_up_ne (b := 69) (by omega), x_up_ne (b := 70) (by omega), x_up_ne (b := 71) (by omega), x_up_ne (b := 74) (by omega), x_up_ne (b := 75) (by omega), x_up_ne (b := 76) (by omega), x_up_ne (b := 77) (by omega), x_up_ne (b := 78) (by omega)]
    exact c)
theorem St.f9 {v : Int32} (h : St W z I J P made S s f) (hn : n < 6) : St W z (x_up I (8 + 10 * n) 9 v) (x_up J 73 n v) P made S s f :=
  h.up (pr_nd (k := 9) hn (by decide) (by decide)) (by omega) (fun e => absurd e (by decide)) (fun c1 c2 => by
    have c := (h.1.2.2.2.1 n hn).2.1
    unfold r_nr at c ⊢
    rw [x_up_ne (b := 69) (by omega), x_up_ne (b := 70) (by omega), x_up_ne (b := 71) (by omega), x_up_ne (b := 74) (by omega), x_up_ne (b := 75) (by omega), x_up_ne (b := 76) (by omega), x_up_ne (b := 77) (by omega), x_up_ne (b := 78) (by omega)]
    exact c)
theorem St.f13 {v : Int32} (h : St W z I J P made S s f) (hn : n < 6) : St W z (x_up I (8 + 10 * n) 13 v) (x_up J 95 n v) P made S s f :=
  h.up (pr_no (k := 13) hn (by decide) (by decide)) (by omega) (fun e => absurd e (by decide)) (fun c1 c2 => absurd c2 (by decide))
theorem St.f14 {v : Int32} (h : St W z I J P made S s f) (hn : n < 6) : St W z (x_up I (8 + 10 * n) 14 v) (x_up J 96 n v) P made S s f :=
  h.up (pr_no (k := 14) hn (by decide) (by decide)) (by omega) (fun e => absurd e (by decide)) (fun c1 c2 => absurd c2 (by decide))
theorem St.f15 {v : Int32} (h : St W z I J P made S s f) (hn : n < 6) : St W z (x_up I (8 + 10 * n) 15 v) (x_up J 97 n v) P made S s f :=
  h.up (pr_no (k := 15) hn (by decide) (by decide)) (by omega) (fun e => absurd e (by decide)) (fun c1 c2 => absurd c2 (by decide))
theorem St.f16 {v : Int32} (h : St W z I J P made S s f) (hn : n < 6) : St W z (x_up I (8 + 10 * n) 16 v) (x_up J 98 n v) P made S s f :=
  h.up (pr_no (k := 16) hn (by decide) (by decide)) (by omega) (fun e => absurd e (by decide)) (fun c1 c2 => absurd c2 (by decide))
theorem St.nx {x : Nat} (h : St W z I J P made S s f) (hn : n < 6) (hx : x < 6) : St W z (x_up I (8 + 10 * n) 6 (nI x)) (x_up J 70 n (nI x)) P made S s f :=
  h.up (pr_nd (k := 6) hn (by decide) (by decide)) (by omega) (fun e => absurd e (by decide)) (fun c1 c2 => by
    have c := (h.1.2.2.2.1 n hn).2.1
    unfold r_nr at c ⊢
    rw [x_up_ne (b := 69) (by omega), x_up_eq ⟨rfl, rfl⟩, x_up_ne (b := 71) (by omega), x_up_ne (b := 74) (by omega), x_up_ne (b := 75) (by omega), x_up_ne (b := 76) (by omega), x_up_ne (b := 77) (by omega), x_up_ne (b := 78) (by omega)]
    exact ⟨c.1, ⟨x, hx, rfl⟩, c.2.2⟩)
theorem St.pn {x : Nat} (h : St W z I J P made S s f) (hn : n < 6) (hx : x < 6) : St W z (x_up I (8 + 10 * n) 7 (nI x)) (x_up J 71 n (nI x)) P made S s f :=
  h.up (pr_nd (k := 7) hn (by decide) (by decide)) (by omega) (fun e => absurd e (by decide)) (fun c1 c2 => by
    have c := (h.1.2.2.2.1 n hn).2.1
    unfold r_nr at c ⊢
    rw [x_up_ne (b := 69) (by omega), x_up_ne (b := 70) (by omega), x_up_eq ⟨rfl, rfl⟩, x_up_ne (b := 74) (by omega), x_up_ne (b := 75) (by omega), x_up_ne (b := 76) (by omega), x_up_ne (b := 77) (by omega), x_up_ne (b := 78) (by omega)]
    exact ⟨c.1, c.2.1, ⟨x, hx, rfl⟩, c.2.2.2⟩)
theorem St.pw {v : Int32} (h : St W z I J P made S s f) (hn : n < 6) (hx : v = 0 ∨ v = 1) : St W z (x_up I (8 + 10 * n) 5 v) (x_up J 69 n v) P made S s f :=
  h.up (pr_nd (k := 5) hn (by decide) (by decide)) (by omega) (fun e => absurd e (by decide)) (fun c1 c2 => by
    have c := (h.1.2.2.2.1 n hn).2.1
    unfold r_nr at c ⊢
    rw [x_up_eq ⟨rfl, rfl⟩, x_up_ne (b := 70) (by omega), x_up_ne (b := 71) (by omega), x_up_ne (b := 74) (by omega), x_up_ne (b := 75) (by omega), x_up_ne (b := 76) (by omega), x_up_ne (b := 77) (by omega), x_up_ne (b := 78) (by omega)]
    exact ⟨hx, c.2⟩)
theorem St.s9 {v : Int32} (h : St W z I J P made S s f) : St W z (x_up I 1 9 v) (x_up J 68 36 v) P made S s f :=
  h.up (pr_sc (k := 9) (by decide) (by decide)) (by omega) (fun _ => r_rg_d h.1.2.2.1.2.2 (fun j _ => x_up_ne (by omega))) (fun c1 c2 => absurd c1 (by decide))
theorem St.s10 {v : Int32} (h : St W z I J P made S s f) : St W z (x_up I 1 10 v) (x_up J 68 37 v) P made S s f :=
  h.up (pr_sc (k := 10) (by decide) (by decide)) (by omega) (fun _ => r_rg_d h.1.2.2.1.2.2 (fun j _ => x_up_ne (by omega))) (fun c1 c2 => absurd c1 (by decide))
theorem St.s12 {v : Int32} (h : St W z I J P made S s f) : St W z (x_up I 1 12 v) (x_up J 68 38 v) P made S s f :=
  h.up pr_tot (by omega) (fun _ => r_rg_d h.1.2.2.1.2.2 (fun j _ => x_up_ne (by omega))) (fun c1 c2 => absurd c1 (by decide))
theorem St.out {v : Int32} {l : Nat} (h : St W z I J P made S s f) (hn : n < 6) (hl : l < 16) : St W z (x_up I (8 + 10 * n + 2) l v) (x_up J 79 (17 * n + (l + 1)) v) P made S s f :=
  h.up (pr_79 hn hl) (by omega) (fun e => absurd e (by decide)) (fun c1 c2 => absurd c2 (by decide))
theorem St.fil {v : Int32} {l : Nat} (h : St W z I J P made S s f) (hn : n < 6) (hl : l < 16) : St W z (x_up I (8 + 10 * n + 3) l v) (x_up J 80 (17 * n + (l + 1)) v) P made S s f :=
  h.up (pr_80 hn hl) (by omega) (fun e => absurd e (by decide)) (fun c1 c2 => absurd c2 (by decide))
theorem St.l0 {v : Int32} (h : St W z I J P made S s f) (hn : n < 6) (hv : s_out v (-10000) 10000 = 0) : St W z (x_up I (8 + 10 * n + 4) 0 v) (x_up J 75 n v) P made S s f :=
  h.up (pr_lo (k := 0) hn (by decide)) (by omega) (fun e => absurd e (by decide)) (fun c1 c2 => by
    have c := (h.1.2.2.2.1 n hn).2.1
    unfold r_nr at c ⊢
    rw [x_up_ne (b := 69) (by omega), x_up_ne (b := 70) (by omega), x_up_ne (b := 71) (by omega), x_up_ne (b := 74) (by omega), x_up_eq ⟨rfl, rfl⟩, x_up_ne (b := 76) (by omega), x_up_ne (b := 77) (by omega), x_up_ne (b := 78) (by omega)]
    exact ⟨c.1, c.2.1, c.2.2.1, c.2.2.2.1, hv, c.2.2.2.2.2⟩)
theorem St.l3 {v : Int32} (h : St W z I J P made S s f) (hn : n < 6) (hv : s_out v (-10000) 10000 = 0) : St W z (x_up I (8 + 10 * n + 4) 3 v) (x_up J 78 n v) P made S s f :=
  h.up (pr_lo (k := 3) hn (by decide)) (by omega) (fun e => absurd e (by decide)) (fun c1 c2 => by
    have c := (h.1.2.2.2.1 n hn).2.1
    unfold r_nr at c ⊢
    rw [x_up_ne (b := 69) (by omega), x_up_ne (b := 70) (by omega), x_up_ne (b := 71) (by omega), x_up_ne (b := 74) (by omega), x_up_ne (b := 75) (by omega), x_up_ne (b := 76) (by omega), x_up_ne (b := 77) (by omega), x_up_eq ⟨rfl, rfl⟩]
    exact ⟨c.1, c.2.1, c.2.2.1, c.2.2.2.1, c.2.2.2.2.1, c.2.2.2.2.2.1, c.2.2.2.2.2.2.1, hv⟩)
end partB8
