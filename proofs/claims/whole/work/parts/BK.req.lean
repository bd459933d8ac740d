/-! requests: what a node does of them, alike -/
theorem k_deq_at {P : xP} {qa : Nat} : ∀ n j, k_deq P qa n qa j = (if j < n then P qa (j + 1) else P qa j)
  | 0, j => by
    rw [if_neg (by omega)]
    rfl
  | n + 1, j => by
    unfold k_deq
    by_cases hj : j = n
    · rw [x_upP_eq ⟨rfl, hj⟩, if_pos (by omega), hj]
    · rw [x_upP_ne (by omega), k_deq_at n j]
      by_cases h1 : j < n
      · rw [if_pos h1, if_pos (by omega)]
      · rw [if_neg h1, if_neg (by omega)]
theorem x_bus_c {z : Nat} {P P' : xP} (h : x_bus z P) (hP : ∀ a, (a < 3 ∨ a = 4 ∨ a = 6 ∨ (8 ≤ a ∧ a < 68 ∧ (a % 10 = 8 ∨ a % 10 = 9 ∨ a % 10 = 4))) → P' a = P a) : x_bus z P' := by
  obtain ⟨h1, h2, h3, h4⟩ := h
  refine ⟨h1, ?_, fun n hn => ?_, fun n hn => ?_⟩
  · rw [hP 1 (by omega), hP 4 (by omega), hP 6 (by omega)]
    exact h2
  · rw [hP 2 (by omega)]
    exact h3 n hn
  · obtain ⟨g1, g2, g3, g4⟩ := h4 n hn
    refine ⟨g1, g2, ?_, fun k hk => ?_⟩
    · rw [hP (8 + 10 * n) (by omega), hP (8 + 10 * n + 1) (by omega)]
      exact g3
    · rw [hP (8 + 10 * n + 6) (by omega)]
      exact g4 k hk
theorem x_mdl_c {z : Nat} {P P' : xP} (h : x_mdl z P) (hP : P' 68 = P 68) : x_mdl z P' := by
  unfold x_mdl
  rw [hP]
  exact h
theorem s_oof_up {J : xI} {a k : Nat} {v : Int32} (ha : a ≠ 79 ∧ a ≠ 80) {n : Nat} : ∀ q l, s_oof (x_up J a k v) n q l = s_oof J n q l
  | 0, _ => rfl
  | q + 1, l => by
    unfold s_oof
    rw [x_up_ne (by omega), x_up_ne (by omega), s_oof_up ha q (l + 1)]
theorem s_val_up {J : xI} {a k : Nat} {v n ob : Int32} (ha : a ≠ 74 ∧ a ≠ 75 ∧ a ≠ 79 ∧ a ≠ 80) : s_val (x_up J a k v) n ob = s_val J n ob := by
  unfold s_val
  rw [x_up_ne (by omega), x_up_ne (by omega), s_oof_up (by omega)]
section partBK
variable {W : xI} {z : Nat} {I I' J J' : xI} {P : xP} {made S s f h n k c r t : Nat}
theorem r_s_succ (J : xI) (S n : Nat) : r_s J (S + 1) n = r_s J S n ++ (if J 90 S = nI n then [S] else []) := by
  unfold r_s
  rw [List.range_succ, List.filter_append]
  by_cases hc : J 90 S = nI n
  · rw [if_pos hc, List.filter_cons_of_pos (by simpa using hc)]
    rfl
  · rw [if_neg hc, List.filter_cons_of_neg (by simpa using hc)]
    rfl
theorem r_s_sum (J : xI) : ∀ S, (∀ q, q < S → ∃ k, k < 6 ∧ J 90 q = nI k) → (r_s J S 0).length + (r_s J S 1).length + (r_s J S 2).length + (r_s J S 3).length + (r_s J S 4).length + (r_s J S 5).length = S
  | 0, _ => rfl
  | S + 1, h => by
    have ih := r_s_sum J S (fun q hq => h q (by omega))
    obtain ⟨k, hk, e⟩ := h S (by omega)
    have g : ∀ n, n < 6 → (r_s J (S + 1) n).length = (r_s J S n).length + (if k = n then 1 else 0) := fun n hn => by
      rw [r_s_succ, List.length_append, e]
      by_cases hc : k = n
      · rw [if_pos hc, if_pos (by rw [hc])]
        rfl
      · rw [if_neg hc, if_neg (fun q => hc ((nI_eq (by omega) (by omega)).mp q))]
        rfl
    rw [g 0 (by omega), g 1 (by omega), g 2 (by omega), g 3 (by omega), g 4 (by omega), g 5 (by omega)]
    rcases (show k = 0 ∨ k = 1 ∨ k = 2 ∨ k = 3 ∨ k = 4 ∨ k = 5 by omega) with rfl | rfl | rfl | rfl | rfl | rfl <;> simp <;> omega
theorem r_room (h : r_sr J S) (hl : ∀ n, n < 6 → (r_s J S n).length ≤ 3) (hn : n < 6) (h2 : (r_s J S n).length < 3) : S < 18 := by
  have := r_s_sum J S (fun q hq => (h.2.2.1 q hq).1)
  have l0 := hl 0 (by omega)
  have l1 := hl 1 (by omega)
  have l2 := hl 2 (by omega)
  have l3 := hl 3 (by omega)
  have l4 := hl 4 (by omega)
  have l5 := hl 5 (by omega)
  rcases (show n = 0 ∨ n = 1 ∨ n = 2 ∨ n = 3 ∨ n = 4 ∨ n = 5 by omega) with rfl | rfl | rfl | rfl | rfl | rfl <;> omega
theorem St.room (q : St W z I J P made S s f) (hn : n < 6) (h2 : (r_s J S n).length < 3) : S < 18 := r_room q.sr (fun _ hm => q.ln hm) hn h2
/-- a change of one request's rows, but for its state -/
theorem St.req (q : St W z I J P made S s f) (hr : r < made) (hI : ∀ a k, a ≠ 101 + r → I' a k = I a k) (hJ : ∀ a k, (a < 86 ∨ 89 < a ∨ k ≠ r) → J' a k = J a k) (h0 : ∀ k, k ≤ 6 → I' (101 + r) k = I (101 + r) k) (h7 : I' (101 + r) 7 = J' 86 r) (h8 : I' (101 + r) 8 = J' 87 r) (h10 : I' (101 + r) 10 = J' 89 r) (h9 : ¬ J' 87 r = 0 → (I' (101 + r) 9 = 0 ↔ ¬ J' 88 r = 0)) (g88 : J' 88 r = 0 ∨ J' 88 r = 1) (g87 : J' 87 r = 0 ∨ J' 87 r = 1) (g86 : J 85 r = 0 → ∃ k, k ≤ 2 ∧ J' 86 r = nI k) : St W z I' J' P made S s f := by
  obtain ⟨⟨h1, e, ⟨t1, t2, h3⟩, h4, h5, h6, hs7⟩, ⟨hf8, hf9⟩, t4, t5, t6, t7⟩ := q
  refine ⟨⟨h1, fun a b a2 b2 hp => ?_, ⟨(hI _ _ (by omega)).trans t1, (hJ _ _ (by omega)).trans t2, r_rg_c h3 (fun j => hJ _ _ (by omega))⟩, fun m hm2 => ?_, fun x hx => ?_, fun x hx => ?_, ?_⟩, ⟨r_fr_c hf8 (fun a j _ _ _ => hI _ _ (by omega)) (fun a j _ _ => hJ _ _ (by omega)), r_sp_d hf9 (fun j _ => ⟨hI _ _ (by omega), hI _ _ (by omega)⟩) (fun j _ _ => hJ _ _ (by omega))⟩, (hI _ _ (by omega)).trans t4, (hJ _ _ (by omega)).trans t5, (hJ _ _ (by omega)).trans t6, t7.1, fun a k g1 g2 => (hI _ _ (by omega)).trans (t7.2 a k g1 g2)⟩
  · have e1 := e _ _ _ _ hp
    by_cases hc : a = 101 + r
    · subst hc
      rcases hp with ⟨p1, _⟩ | ⟨p1, p2, _⟩ | ⟨p1, p2, _⟩ | ⟨p0, p1, p2, p3, p4⟩ | ⟨p1, p2, ⟨rfl, rfl⟩ | ⟨rfl, p3, p4⟩ | ⟨rfl, rfl⟩⟩
      · omega
      · omega
      · omega
      · omega
      · rw [h0 1 (by omega), hJ _ _ (by omega)]
        exact e1
      · have eb : b2 = r := by omega
        subst eb
        match b, p3, p4 with
        | 5, _, _ => exact (h0 5 (by omega)).trans (e1.trans (hJ _ _ (by omega)).symm)
        | 6, _, _ => exact (h0 6 (by omega)).trans (e1.trans (hJ _ _ (by omega)).symm)
        | 7, _, _ => exact h7
        | 8, _, _ => exact h8
      · have eb : b2 = r := by omega
        subst eb
        exact h10
    · rw [hI _ _ hc]
      unfold pr at hp
      rw [hJ _ _ (by omega)]
      exact e1
  · obtain ⟨a1, a2, a3, a4⟩ := h4 m hm2
    exact ⟨(hI _ _ (by omega)).trans a1, r_nr_d a2 (fun a _ _ => hJ _ _ (by omega)), r_qu_c a3 (hI _ _ (by omega)) (fun j _ => ⟨hJ _ _ (by omega), hJ _ _ (by omega)⟩), r_sb_c a4 hm2 (fun a k _ _ => hI _ _ (by omega)) (hI _ _ (by omega)) (fun j => ⟨hJ _ _ (by omega), hJ _ _ (by omega), hJ _ _ (by omega), hJ _ _ (by omega), hJ _ _ (by omega)⟩)⟩
  · obtain ⟨b, cc⟩ := h5 x hx
    by_cases hc : x = r
    · subst hc
      refine ⟨?_, ?_⟩
      · rw [h0 0 (by omega), h0 2 (by omega), h0 3 (by omega), h0 4 (by omega), hJ 83 _ (by omega)]
        exact ⟨b.1, b.2.1, b.2.2.1, b.2.2.2.1, b.2.2.2.2.1, b.2.2.2.2.2.1, h9⟩
      · unfold r_rr at cc ⊢
        rw [hJ 81 _ (by omega), hJ 82 _ (by omega), hJ 83 _ (by omega), hJ 85 _ (by omega)]
        exact ⟨cc.1, cc.2.1, cc.2.2.1, g88, g87, g86⟩
    · refine ⟨?_, r_rr_c cc (fun a _ _ => hJ _ _ (by omega))⟩
      rw [hI _ _ (by omega), hI _ _ (by omega), hI _ _ (by omega), hI _ _ (by omega), hI _ _ (by omega), hJ _ _ (by omega), hJ _ _ (by omega), hJ _ _ (by omega)]
      exact b
  · rw [hJ _ _ (by omega), hJ _ _ (by omega), hJ _ _ (by omega), hJ _ _ (by omega), hJ _ _ (by omega)]
    exact h6 x hx
  · exact r_sr_c hs7 (hJ _ _ (by omega)) (fun j => ⟨hJ _ _ (by omega), hJ _ _ (by omega), hJ _ _ (by omega), hJ _ _ (by omega), hJ _ _ (by omega)⟩)
theorem St.settle {d v bad out : Int32} (q : St W z I J P made S s f) (hr : r < made) (hd : d = 0 ↔ ¬ bad = 0) (hb : bad = 0 ∨ bad = 1) (hv : ¬ d = 0 → v = out) : St W z (k_settle I (101 + r) d v) (s_fin J r bad out) P made S s f := by
  have c86 := (q.1.2.2.2.2.1 r hr).2.2.2.2.2.2
  unfold k_settle s_fin
  refine q.req hr (fun a k ha => by rw [x_up_ne (by omega), x_up_ne (by omega), x_up_ne (by omega)]) (fun a k ha => by rw [x_up_ne (by omega), x_up_ne (by omega), x_up_ne (by omega)]) (fun k hk => by rw [x_up_ne (by omega), x_up_ne (by omega), x_up_ne (by omega)]) ?_ ?_ ?_ (fun _ => ?_) ?_ ?_ ?_
  · rw [x_up_ne (by omega), x_up_ne (by omega), x_up_ne (by omega), x_up_ne (by omega), x_up_ne (by omega), x_up_ne (by omega)]
    exact q.g (pr_r5 (k := 7) hr (by decide) (by decide))
  · rw [x_up_ne (by omega), x_up_ne (by omega), x_up_eq ⟨rfl, rfl⟩, x_up_ne (by omega), x_up_ne (by omega), x_up_eq ⟨rfl, rfl⟩]
  · rw [x_up_eq ⟨rfl, rfl⟩, x_up_eq ⟨rfl, rfl⟩]
    by_cases h0 : d = 0
    · rw [if_pos h0, if_neg (hd.mp h0)]
    · rw [if_neg h0, hv h0, if_pos (Decidable.byContradiction fun g => h0 (hd.mpr g))]
  · rw [x_up_ne (by omega), x_up_eq ⟨rfl, rfl⟩, x_up_ne (by omega), x_up_eq ⟨rfl, rfl⟩]
    exact hd
  · rw [x_up_ne (by omega), x_up_eq ⟨rfl, rfl⟩]
    exact hb
  · rw [x_up_ne (by omega), x_up_ne (by omega), x_up_eq ⟨rfl, rfl⟩]
    exact Or.inr rfl
  · rw [x_up_ne (by omega), x_up_ne (by omega), x_up_ne (by omega)]
    exact c86
/-- one try more -/
theorem St.tried {x : Nat} (q : St W z I J P made S s f) (hr : r < made) (hx : J 85 r = 0 → x ≤ 2) : St W z (x_up I (101 + r) 7 (nI x)) (x_up J 86 r (nI x)) P made S s f := by
  obtain ⟨b, cc⟩ := q.1.2.2.2.2.1 r hr
  refine q.req hr (fun a k ha => x_up_ne (by omega)) (fun a k ha => x_up_ne (by omega)) (fun k hk => x_up_ne (by omega)) ?_ ?_ ?_ ?_ ?_ ?_ ?_
  · rw [x_up_eq ⟨rfl, rfl⟩, x_up_eq ⟨rfl, rfl⟩]
  · rw [x_up_ne (by omega), x_up_ne (by omega)]
    exact q.g (pr_r5 (k := 8) hr (by decide) (by decide))
  · rw [x_up_ne (by omega), x_up_ne (by omega)]
    exact q.g (pr_r10 hr)
  · rw [x_up_ne (by omega), x_up_ne (by omega), x_up_ne (by omega)]
    exact b.2.2.2.2.2.2
  · rw [x_up_ne (by omega)]
    exact cc.2.2.2.1
  · rw [x_up_ne (by omega)]
    exact cc.2.2.2.2.1
  · rw [x_up_eq ⟨rfl, rfl⟩]
    exact fun e => ⟨x, hx e, rfl⟩
/-- a request done: its state, its place in the queue -/
theorem St.done {v : Int32} {L : List Nat} (q : St W z I J P made S s f) (hh : h < 6) (hq : r_q J made h = r :: L) (hv : ¬ v = 0) : St W z (x_up (x_up I (101 + r) 6 v) (8 + 10 * h) 11 (nI L.length)) (x_up J 85 r v) (k_deq P (8 + 10 * h + 5) L.length) made S s f := by
  have hmem : r ∈ r_q J made h := by rw [hq]; exact List.mem_cons_self
  have hnd : (r_q J made h).Nodup := List.Pairwise.filter _ List.nodup_range
  rw [hq] at hnd
  have hrm : r < made ∧ J 81 r = nI h ∧ J 85 r = 0 := by
    unfold r_q at hmem
    rw [List.mem_filter] at hmem
    exact ⟨List.mem_range.mp hmem.1, by simpa using hmem.2⟩
  obtain ⟨hr, r81, r85⟩ := hrm
  have hL : r_q (x_up J 85 r v) made h = L := by
    have e1 : r_q (x_up J 85 r v) made h = (r_q J made h).filter (fun x => decide (x ≠ r)) := by
      unfold r_q
      rw [List.filter_filter]
      apply List.filter_congr
      intro x hx
      rw [x_up_ne (b := 81) (by omega)]
      by_cases hc : x = r
      · rw [x_up_eq ⟨rfl, hc⟩, decide_eq_false (fun g => hv g.2), decide_eq_false (fun g => g hc)]
        rfl
      · rw [x_up_ne (by omega), decide_eq_true (p := x ≠ r) hc]
        rfl
    rw [e1, hq, List.filter_cons_of_neg (by simp)]
    apply List.filter_eq_self.mpr
    intro x hx
    have : x ≠ r := fun e => (List.nodup_cons.mp hnd).1 (e ▸ hx)
    exact decide_eq_true this
  have hlen : (r_q J made h).length = L.length + 1 := by rw [hq]; rfl
  have hle := (q.1.2.2.2.1 h hh).2.2.1
  obtain ⟨⟨⟨h1, h1b, h1c, h1d⟩, e, ⟨t1, t2, h3⟩, h4, h5, h6, h7⟩, ⟨h8, h9⟩, t4, t5, t6, t7⟩ := q
  have hPne : ∀ a, a ≠ 8 + 10 * h + 5 → k_deq P (8 + 10 * h + 5) L.length a = P a := fun a ha => k_deq_ne ha L.length
  refine ⟨⟨⟨h1, h1b, x_bus_c h1c (fun a _ => hPne a (by omega)), x_mdl_c h1d (hPne 68 (by omega))⟩, fun a b a2 b2 hp => ?_, ⟨(x_up_ne (by omega)).trans ((x_up_ne (by omega)).trans t1), (x_up_ne (by omega)).trans t2, r_rg_c h3 (fun j => x_up_ne (by omega))⟩, fun m hm2 => ?_, fun x hx => ?_, fun x hx => ?_, ?_⟩, ⟨r_fr_c h8 (fun a j _ _ _ => (x_up_ne (by omega)).trans (x_up_ne (by omega))) (fun a j _ _ => x_up_ne (by omega)), r_sp_d h9 (fun j _ => ⟨(x_up_ne (by omega)).trans (x_up_ne (by omega)), (x_up_ne (by omega)).trans (x_up_ne (by omega))⟩) (fun j _ _ => x_up_ne (by omega))⟩, (x_up_ne (by omega)).trans ((x_up_ne (by omega)).trans t4), (x_up_ne (by omega)).trans t5, (x_up_ne (by omega)).trans t6, t7.1, fun a k g1 g2 => (x_up_ne (by omega)).trans ((x_up_ne (by omega)).trans (t7.2 a k g1 g2))⟩
  · have e1 := (e.up (v := v) (pr_r5 (k := 6) hr (by decide) (by decide))) _ _ _ _ hp
    rw [x_up_ne (a := 8 + 10 * h)]
    · exact e1
    · unfold pr at hp
      omega
  · obtain ⟨a1, a2, a3, a4⟩ := h4 m hm2
    refine ⟨(x_up_ne (by omega)).trans ((x_up_ne (by omega)).trans a1), r_nr_d a2 (fun a _ _ => x_up_ne (by omega)), ?_, r_sb_c a4 hm2 (fun a k _ _ => (x_up_ne (by omega)).trans (x_up_ne (by omega))) ((x_up_ne (by omega)).trans (x_up_ne (by omega))) (fun j => ⟨x_up_ne (by omega), x_up_ne (by omega), x_up_ne (by omega), x_up_ne (by omega), x_up_ne (by omega)⟩)⟩
    by_cases hc : m = h
    · subst hc
      unfold r_qu
      rw [hL, x_up_eq ⟨rfl, rfl⟩]
      refine ⟨by have := hle.1; omega, rfl, fun k x hx => ?_⟩
      have hk : k < L.length := (List.getElem?_eq_some_iff.mp hx).1
      rw [k_deq_at, if_pos hk]
      exact hle.2.2 (k + 1) x (by rw [hq]; exact hx)
    · have eq : r_q (x_up J 85 r v) made m = r_q J made m := by
        unfold r_q
        apply List.filter_congr
        intro x hx
        rw [x_up_ne (b := 81) (by omega)]
        by_cases hxr : x = r
        · subst hxr
          have : ¬ J 81 x = nI m := fun g => hc ((nI_eq (by omega) (by omega)).mp (g.symm.trans r81))
          rw [decide_eq_false (fun g => this g.1), decide_eq_false (fun g => this g.1)]
        · rw [x_up_ne (by omega)]
      obtain ⟨b1, b2, b3⟩ := a3
      unfold r_qu
      rw [eq, x_up_ne (by omega), x_up_ne (by omega)]
      exact ⟨b1, b2, fun k x hx => by rw [hPne _ (by omega)]; exact b3 k x hx⟩
  · obtain ⟨b, cc⟩ := h5 x hx
    refine ⟨?_, ?_⟩
    · rw [x_up_ne (by omega), x_up_ne (by omega), x_up_ne (by omega), x_up_ne (by omega), x_up_ne (by omega), x_up_ne (by omega), x_up_ne (by omega), x_up_ne (by omega), x_up_ne (by omega), x_up_ne (by omega), x_up_ne (by omega), x_up_ne (by omega), x_up_ne (by omega), hPne _ (by omega)]
      exact b
    · unfold r_rr at cc ⊢
      rw [x_up_ne (b := 81) (by omega), x_up_ne (b := 82) (by omega), x_up_ne (b := 83) (by omega), x_up_ne (b := 86) (by omega), x_up_ne (b := 87) (by omega), x_up_ne (b := 88) (by omega)]
      refine ⟨cc.1, cc.2.1, cc.2.2.1, cc.2.2.2.1, cc.2.2.2.2.1, fun g => ?_⟩
      by_cases hxr : x = r
      · rw [x_up_eq ⟨rfl, hxr⟩] at g
        exact absurd g hv
      · rw [x_up_ne (by omega)] at g
        exact cc.2.2.2.2.2 g
  · rw [x_up_ne (by omega), x_up_ne (by omega), x_up_ne (by omega), x_up_ne (by omega), x_up_ne (by omega)]
    exact h6 x hx
  · exact r_sr_c h7 (x_up_ne (by omega)) (fun j => ⟨x_up_ne (by omega), x_up_ne (by omega), x_up_ne (by omega), x_up_ne (by omega), x_up_ne (by omega)⟩)
end partBK
