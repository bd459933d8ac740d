/-! a node's work of a request: alike -/
section partBM
variable {W : xI} {z : Nat} {I J : xI} {P : xP} {made S s f h n k c r t : Nat}
theorem St.newsub {w : Nat} {ob v : Int32} (q : St W z I J P made S s f) (hn : n < 6) (hl : (r_s J S n).length < 3) (hw : w < 6) (hob : ob = 0 ∨ ob = 1) : St W z (x_up (k_begin I (8 + 10 * n + 7 + (r_s J S n).length) (nI w) ob v) (8 + 10 * n) 12 (nI ((r_s J S n).length + 1))) (x_up (x_up (x_up (s_sb3 J (nI n) (nI w) ob S) 68 22 (nI (S + 1))) 93 S v) 94 S 0) P made (S + 1) s f := by
  have hS := q.room hn hl
  obtain ⟨⟨h1, e, ⟨t1, t2, h3⟩, h4, h5, h6, h7⟩, ⟨h8, h9⟩, t4, t5, t6, t7⟩ := q
  generalize hm : (r_s J S n).length = m at hl
  unfold k_begin k_renew s_sb3
  have hI : ∀ a j, (a ≠ 8 + 10 * n + 7 + m ∧ (a ≠ 8 + 10 * n ∨ j ≠ 12)) → x_up (x_up (x_up (x_up (x_up I (8 + 10 * n + 7 + m) 0 (nI w)) (8 + 10 * n + 7 + m) 1 ob) (8 + 10 * n + 7 + m) 2 v) (8 + 10 * n + 7 + m) 3 0) (8 + 10 * n) 12 (nI (m + 1)) a j = I a j := fun a j g => by
    rw [x_up_ne (by omega), x_up_ne (by omega), x_up_ne (by omega), x_up_ne (by omega), x_up_ne (by omega)]
  have hJ : ∀ a j, (a < 90 ∨ 94 < a ∨ j ≠ S) → (a ≠ 68 ∨ j ≠ 22) → x_up (x_up (x_up (x_up (x_up (x_up J 90 S (nI n)) 91 S (nI w)) 92 S ob) 68 22 (nI (S + 1))) 93 S v) 94 S 0 a j = J a j := fun a j g g2 => by
    rw [x_up_ne (by omega), x_up_ne (by omega), x_up_ne (by omega), x_up_ne (by omega), x_up_ne (by omega), x_up_ne (by omega)]
  have i0 : x_up (x_up (x_up (x_up (x_up I (8 + 10 * n + 7 + m) 0 (nI w)) (8 + 10 * n + 7 + m) 1 ob) (8 + 10 * n + 7 + m) 2 v) (8 + 10 * n + 7 + m) 3 0) (8 + 10 * n) 12 (nI (m + 1)) (8 + 10 * n + 7 + m) 0 = nI w := by
    rw [x_up_ne (by omega), x_up_ne (by omega), x_up_ne (by omega), x_up_ne (by omega), x_up_eq ⟨rfl, rfl⟩]
  have i1 : x_up (x_up (x_up (x_up (x_up I (8 + 10 * n + 7 + m) 0 (nI w)) (8 + 10 * n + 7 + m) 1 ob) (8 + 10 * n + 7 + m) 2 v) (8 + 10 * n + 7 + m) 3 0) (8 + 10 * n) 12 (nI (m + 1)) (8 + 10 * n + 7 + m) 1 = ob := by
    rw [x_up_ne (by omega), x_up_ne (by omega), x_up_ne (by omega), x_up_eq ⟨rfl, rfl⟩]
  have i2 : x_up (x_up (x_up (x_up (x_up I (8 + 10 * n + 7 + m) 0 (nI w)) (8 + 10 * n + 7 + m) 1 ob) (8 + 10 * n + 7 + m) 2 v) (8 + 10 * n + 7 + m) 3 0) (8 + 10 * n) 12 (nI (m + 1)) (8 + 10 * n + 7 + m) 2 = v := by
    rw [x_up_ne (by omega), x_up_ne (by omega), x_up_eq ⟨rfl, rfl⟩]
  have i3 : x_up (x_up (x_up (x_up (x_up I (8 + 10 * n + 7 + m) 0 (nI w)) (8 + 10 * n + 7 + m) 1 ob) (8 + 10 * n + 7 + m) 2 v) (8 + 10 * n + 7 + m) 3 0) (8 + 10 * n) 12 (nI (m + 1)) (8 + 10 * n + 7 + m) 3 = 0 := by
    rw [x_up_ne (by omega), x_up_eq ⟨rfl, rfl⟩]
  have i12 : x_up (x_up (x_up (x_up (x_up I (8 + 10 * n + 7 + m) 0 (nI w)) (8 + 10 * n + 7 + m) 1 ob) (8 + 10 * n + 7 + m) 2 v) (8 + 10 * n + 7 + m) 3 0) (8 + 10 * n) 12 (nI (m + 1)) (8 + 10 * n) 12 = nI (m + 1) := x_up_eq ⟨rfl, rfl⟩
  have j90 : x_up (x_up (x_up (x_up (x_up (x_up J 90 S (nI n)) 91 S (nI w)) 92 S ob) 68 22 (nI (S + 1))) 93 S v) 94 S 0 90 S = nI n := by
    rw [x_up_ne (by omega), x_up_ne (by omega), x_up_ne (by omega), x_up_ne (by omega), x_up_ne (by omega), x_up_eq ⟨rfl, rfl⟩]
  have j91 : x_up (x_up (x_up (x_up (x_up (x_up J 90 S (nI n)) 91 S (nI w)) 92 S ob) 68 22 (nI (S + 1))) 93 S v) 94 S 0 91 S = nI w := by
    rw [x_up_ne (by omega), x_up_ne (by omega), x_up_ne (by omega), x_up_ne (by omega), x_up_eq ⟨rfl, rfl⟩]
  have j92 : x_up (x_up (x_up (x_up (x_up (x_up J 90 S (nI n)) 91 S (nI w)) 92 S ob) 68 22 (nI (S + 1))) 93 S v) 94 S 0 92 S = ob := by
    rw [x_up_ne (by omega), x_up_ne (by omega), x_up_ne (by omega), x_up_eq ⟨rfl, rfl⟩]
  have j93 : x_up (x_up (x_up (x_up (x_up (x_up J 90 S (nI n)) 91 S (nI w)) 92 S ob) 68 22 (nI (S + 1))) 93 S v) 94 S 0 93 S = v := by
    rw [x_up_ne (by omega), x_up_eq ⟨rfl, rfl⟩]
  have j94 : x_up (x_up (x_up (x_up (x_up (x_up J 90 S (nI n)) 91 S (nI w)) 92 S ob) 68 22 (nI (S + 1))) 93 S v) 94 S 0 94 S = 0 := x_up_eq ⟨rfl, rfl⟩
  have j22 : x_up (x_up (x_up (x_up (x_up (x_up J 90 S (nI n)) 91 S (nI w)) 92 S ob) 68 22 (nI (S + 1))) 93 S v) 94 S 0 68 22 = nI (S + 1) := by
    rw [x_up_ne (by omega), x_up_ne (by omega), x_up_eq ⟨rfl, rfl⟩]
  revert hI hJ i0 i1 i2 i3 i12 j90 j91 j92 j93 j94 j22
  generalize x_up (x_up (x_up (x_up (x_up I (8 + 10 * n + 7 + m) 0 (nI w)) (8 + 10 * n + 7 + m) 1 ob) (8 + 10 * n + 7 + m) 2 v) (8 + 10 * n + 7 + m) 3 0) (8 + 10 * n) 12 (nI (m + 1)) = I'
  generalize x_up (x_up (x_up (x_up (x_up (x_up J 90 S (nI n)) 91 S (nI w)) 92 S ob) 68 22 (nI (S + 1))) 93 S v) 94 S 0 = J'
  intro hI hJ i0 i1 i2 i3 i12 j90 j91 j92 j93 j94 j22
  refine ⟨⟨h1, fun a b a2 b2 hp => ?_, ⟨(hI _ _ (by omega)).trans t1, (hJ _ _ (by omega) (by omega)).trans t2, r_rg_d h3 (fun j _ => hJ _ _ (by omega) (by omega))⟩, fun x hx => ?_, fun x hx => ?_, r_r0_c h6 (fun a j _ _ => hJ _ _ (by omega) (by omega)), ?_⟩, ⟨r_fr_c h8 (fun a j _ _ _ => hI _ _ (by omega)) (fun a j _ _ => hJ _ _ (by omega) (by omega)), r_sp_d h9 (fun j _ => ⟨hI _ _ (by omega), hI _ _ (by omega)⟩) (fun j _ _ => hJ _ _ (by omega) (by omega))⟩, (hI _ _ (by omega)).trans t4, (hJ _ _ (by omega) (by omega)).trans t5, (hJ _ _ (by omega) (by omega)).trans t6, t7.1, fun a k g1 g2 => (hI _ _ (by omega)).trans (t7.2 a k g1 g2)⟩
  · have e1 := e _ _ _ _ hp
    unfold pr at hp
    have g1 : (a2 < 90 ∨ 94 < a2) ∧ (a2 ≠ 68 ∨ b2 ≠ 22) ∧ (a < 8 ∨ 100 < a ∨ (a % 10 = 8 ∧ b ≠ 12) ∨ a % 10 = 0 ∨ a % 10 = 1 ∨ a % 10 = 2) := by omega
    rw [hI _ _ (by omega), hJ _ _ (by omega) (by omega)]
    exact e1
  · obtain ⟨a1, a2, a3, a4⟩ := h4 x hx
    refine ⟨(hI _ _ (by omega)).trans a1, r_nr_d a2 (fun a _ _ => hJ _ _ (by omega) (by omega)), r_qu_c a3 (hI _ _ (by omega)) (fun j _ => ⟨hJ _ _ (by omega) (by omega), hJ _ _ (by omega) (by omega)⟩), ?_⟩
    obtain ⟨b1, b2, b3⟩ := a4
    have er : r_s J' S x = r_s J S x := r_s_c (fun j hj => hJ _ _ (by omega) (by omega))
    have er2 : r_s J' (S + 1) x = r_s J S x ++ (if x = n then [S] else []) := by
      rw [r_s_succ, er, j90]
      by_cases hc : x = n
      · rw [if_pos hc, if_pos (by rw [hc])]
      · rw [if_neg hc, if_neg (fun g => hc ((nI_eq (by omega) (by omega)).mp g).symm)]
    by_cases hc : x = n
    · subst hc
      rw [if_pos rfl] at er2
      unfold r_sb
      rw [er2, List.length_append, hm]
      refine ⟨by simp; omega, i12, fun k c hk => ?_⟩
      by_cases hkm : k < m
      · rw [List.getElem?_append_left (by omega)] at hk
        have hc2 := r_s_mem hk
        rw [hI _ _ (by omega), hI _ _ (by omega), hI _ _ (by omega), hI _ _ (by omega), hJ _ _ (by omega) (by omega), hJ _ _ (by omega) (by omega), hJ _ _ (by omega) (by omega), hJ _ _ (by omega) (by omega)]
        exact b3 k c hk
      · rw [List.getElem?_append_right (by omega), hm] at hk
        have hk0 : k - m < 1 := (List.getElem?_eq_some_iff.mp hk).1
        have ek : k = m := by omega
        subst ek
        rw [Nat.sub_self] at hk
        have ec : c = S := (Option.some.inj hk).symm
        subst ec
        exact ⟨i0.trans j91.symm, i1.trans j92.symm, i2.trans j93.symm, i3.trans j94.symm⟩
    · rw [if_neg hc, List.append_nil] at er2
      unfold r_sb
      rw [er2]
      refine ⟨b1, by rw [hI _ _ (by omega)]; exact b2, fun k c hk => ?_⟩
      have hc2 := r_s_mem hk
      have hkl : k < (r_s J S x).length := (List.getElem?_eq_some_iff.mp hk).1
      rw [hI _ _ (by omega), hI _ _ (by omega), hI _ _ (by omega), hI _ _ (by omega), hJ _ _ (by omega) (by omega), hJ _ _ (by omega) (by omega), hJ _ _ (by omega) (by omega), hJ _ _ (by omega) (by omega)]
      exact b3 k c hk
  · obtain ⟨b, cc⟩ := h5 x hx
    refine ⟨?_, r_rr_c cc (fun a _ _ => hJ _ _ (by omega) (by omega))⟩
    rw [hI _ _ (by omega), hI _ _ (by omega), hI _ _ (by omega), hI _ _ (by omega), hI _ _ (by omega), hJ _ _ (by omega) (by omega), hJ _ _ (by omega) (by omega), hJ _ _ (by omega) (by omega)]
    exact b
  · obtain ⟨g1, g2, g3, g4⟩ := h7
    refine ⟨j22, by omega, fun x hx => ?_, fun x => ?_⟩
    · by_cases hc : x = S
      · subst hc
        rw [j90, j91, j92]
        exact ⟨⟨n, hn, rfl⟩, ⟨w, hw, rfl⟩, hob⟩
      · rw [hJ _ _ (by omega) (by omega), hJ _ _ (by omega) (by omega), hJ _ _ (by omega) (by omega)]
        exact g3 x (by omega)
    · by_cases hc : x = S
      · subst hc
        rw [j94]
        exact Or.inl rfl
      · rw [hJ _ _ (by omega) (by omega)]
        exact g4 x
theorem St.srch {w : Nat} {ob : Int32} (q : St W z I J P made S s f) (hn : n < 6) : (k_srch (fun k => decide (I (8 + 10 * n + 7 + k) 0 = nI w ∧ I (8 + 10 * n + 7 + k) 1 = ob)) (r_s J S n).length 0 = none ∧ s_sbO J (nI n) (nI w) ob S = none) ∨ ∃ k c, k_srch (fun k => decide (I (8 + 10 * n + 7 + k) 0 = nI w ∧ I (8 + 10 * n + 7 + k) 1 = ob)) (r_s J S n).length 0 = some k ∧ (r_s J S n)[k]? = some c ∧ s_sbO J (nI n) (nI w) ob S = some c := by
  have e1 : s_sbO J (nI n) (nI w) ob S = (r_s J S n).find? (fun c => decide (J 91 c = nI w ∧ J 92 c = ob)) := by
    unfold s_sbO r_s
    rw [← srch_filter]
    congr 1
    funext k
    by_cases h1 : J 90 k = nI n <;> by_cases h2 : J 91 k = nI w <;> by_cases h3 : J 92 k = ob <;> simp [h1, h2, h3]
  rw [e1]
  rcases srch_list (fun c => decide (J 91 c = nI w ∧ J 92 c = ob)) (fun k => decide (I (8 + 10 * n + 7 + k) 0 = nI w ∧ I (8 + 10 * n + 7 + k) 1 = ob)) (r_s J S n) 0 (fun k c hk => by
    obtain ⟨b0, b1, -⟩ := q.sb hn hk
    rw [show 0 + k = k by omega]
    show decide (I (8 + 10 * n + 7 + k) 0 = nI w ∧ I (8 + 10 * n + 7 + k) 1 = ob) = decide (J 91 c = nI w ∧ J 92 c = ob)
    rw [b0, b1]) with ⟨a, b⟩ | ⟨k, c, a, b, g⟩
  · exact Or.inl ⟨a, b⟩
  · rw [show 0 + k = k by omega] at a
    exact Or.inr ⟨k, c, a, b, g⟩
theorem sim_subs {w : Nat} {ob : Int32} (q : St W z I J P made S s f) (hn : n < 6) (hw : w < 6) (hob : ob = 0 ∨ ob = 1) : (k_sbV I (8 + 10 * n) (nI w) ob (r_s J S n).length = 0 ↔ ¬ s_sbV J (nI n) (nI w) ob S = 0) ∧ (s_sbV J (nI n) (nI w) ob S = 0 ∨ s_sbV J (nI n) (nI w) ob S = 1) ∧ ∃ S', St W z (k_sbI I (8 + 10 * n) (nI w) ob (r_s J S n).length) (s_sbJ J (nI n) (nI w) ob S) P made S' s f := by
  have hl := q.ln hn
  unfold k_sbV s_sbV k_sbI s_sbJ
  rcases q.srch (w := w) (ob := ob) hn with ⟨a, b⟩ | ⟨k, c, a, g, b⟩
  · rw [a, b]
    show ((if (r_s J S n).length < 3 then (1 : Int32) else 0) = 0 ↔ ¬ (if s_sof J (nI n) S = 3 then (1 : Int32) else 0) = 0) ∧ ((if s_sof J (nI n) S = 3 then (1 : Int32) else 0) = 0 ∨ (if s_sof J (nI n) S = 3 then (1 : Int32) else 0) = 1) ∧ ∃ S', St W z (if (r_s J S n).length < 3 then x_up (k_begin I (8 + 10 * n + 7 + (r_s J S n).length) (nI w) ob (k_ov I (8 + 10 * n) ob)) (8 + 10 * n) 12 (k_begin I (8 + 10 * n + 7 + (r_s J S n).length) (nI w) ob (k_ov I (8 + 10 * n) ob) (8 + 10 * n) 12 + 1) else I) (if s_sof J (nI n) S = 3 then J else s_sn (x_up (s_sb3 J (nI n) (nI w) ob S) 68 22 (s_sb3 J (nI n) (nI w) ob S 68 22 + 1)) S (nI n) ob) P made S' s f
    rw [r_sof]
    by_cases hc : (r_s J S n).length < 3
    · have hne : ¬ nI (r_s J S n).length = 3 := fun g => by
        have := (nI_eq (b := 3) (by omega) (by omega)).mp g
        omega
      rw [if_pos hc, if_neg hne, if_neg hne, if_pos hc]
      refine ⟨⟨fun g => absurd g (by decide), fun g => absurd rfl g⟩, Or.inl rfl, S + 1, ?_⟩
      rw [k_begin_ne (by omega), q.g12 hn, nI_1]
      unfold s_sn
      rw [s_val_up (by omega)]
      unfold s_sb3
      rw [s_val_up (by omega), s_val_up (by omega), s_val_up (by omega), x_up_ne (b := 68) (by omega), x_up_ne (b := 68) (by omega), x_up_ne (b := 68) (by omega), q.sr.1, nI_1, q.ov hn ob]
      exact q.newsub hn hc hw hob
    · have e3 : (r_s J S n).length = 3 := by omega
      have he : nI (r_s J S n).length = 3 := by
        rw [e3]
        decide
      rw [if_neg hc, if_pos he, if_pos he, if_neg hc]
      exact ⟨⟨fun _ => by decide, fun _ => rfl⟩, Or.inr rfl, S, q⟩
  · rw [a, b]
    refine ⟨⟨fun g => absurd (show (1 : Int32) = 0 from g) (by decide), fun g => absurd rfl g⟩, Or.inl rfl, S, ?_⟩
    show St W z (k_renew I (8 + 10 * n + 7 + k) (k_ov I (8 + 10 * n) ob)) (s_sn J c (nI n) ob) P made S s f
    rw [q.ov hn ob]
    exact q.renew hn g
theorem r_word {w : Int32} (h : s_out w 0 2047 = 0) : ∃ a b d, a < 8 ∧ b < 8 ∧ d < 32 ∧ s_sv w = nI a ∧ s_ob w = nI b ∧ s_lv w = nI d := by
  obtain ⟨x, -, hx, rfl⟩ := s_out_ix (A := 0) (B := 2047) (by decide) (by decide) h
  have e8 : (8 : Int32) = nI 8 := by decide
  have e64 : (64 : Int32) = nI 64 := by decide
  refine ⟨x % 8, x / 8 % 8, x / 64, by omega, by omega, by omega, ?_, ?_, ?_⟩
  · unfold s_sv
    rw [e8, pk_rem (by omega) (by omega) (by omega)]
  · unfold s_ob
    rw [e8, pk_div (by omega) (by omega) (by omega), pk_rem (by omega) (by omega) (by omega)]
  · unfold s_lv
    rw [e64, pk_div (by omega) (by omega) (by omega)]
theorem r_one (l : Int32) : s_one 1 l = k_within l 1 16 := by
  unfold s_one k_within
  rw [if_pos rfl]
theorem r_one_ne {o l : Int32} (h : ¬ o = 1) : s_one o l = 0 := if_neg h
theorem r_w2 : ∀ b, b < 8 → ((k_within (nI b) 0 2 = 0 ↔ ¬ (if nI b ≤ 2 then (0 : Int32) else 1) = 0) ∧ ((if nI b ≤ 2 then (0 : Int32) else 1) = 0 ∨ (if nI b ≤ 2 then (0 : Int32) else 1) = 1)) := by decide +kernel
theorem r_w1 : ∀ b, b < 8 → ((k_within (nI b) 0 1 = 0 ∧ 2 ≤ nI b) ∨ (¬ k_within (nI b) 0 1 = 0 ∧ ¬ 2 ≤ nI b ∧ (nI b = 0 ∨ nI b = 1))) := by decide +kernel
theorem sim_work {w : Nat} (q : St W z I J P made S s f) (hr : r < made) (ht : t < 6) (et : J 82 r = nI t) (hw : w < 6) (ew : J 81 r = nI w) : ∃ S', St W z (k_co I (8 + 10 * t) (101 + r) (nI w) (r_s J S t).length) (s_work J r S) P made S' s f := by
  obtain ⟨⟨c0, c1, c2, c3, c4, c5, c6⟩, c7⟩ := q.1.2.2.2.2.1 r hr
  obtain ⟨a, b, d, ha, hb, hd, ea, eb, ed⟩ := r_word c7.2.2.1
  rw [ea] at c3
  rw [eb] at c4
  rw [ed] at c5
  have a5 : I (101 + r) 5 = J 84 r := q.g (pr_r5 (k := 5) hr (by decide) (by decide))
  have fail : ∀ {v out : Int32}, St W z (k_settle I (101 + r) 0 v) (s_fin J r 1 out) P made S s f := fun {v out} => q.settle hr ⟨fun _ => by decide, fun _ => rfl⟩ (Or.inr rfl) (fun g => absurd rfl g)
  have hm3 := q.ln ht
  have lev : ¬ k_within (nI d) 1 16 = 0 → ∃ j, j < 16 ∧ k_tn (nI d) = j + 1 ∧ (nI d - 1).toNatClampNeg = j := fun hc => by
    obtain ⟨j, hj, e1, e2⟩ := k_lev hc
    exact ⟨j, hj, by rw [e1, k_tn_nI (by omega)], by rw [e2, nI_clamp (by omega)]⟩
  unfold k_co k_coV k_coI k_coA s_work s_wk
  rw [et, ea, eb, ed, c3, c4, c5]
  by_cases h1 : nI a = 1
  · rw [if_pos h1, if_pos h1, if_pos h1, if_pos h1, q.ov ht]
    exact ⟨S, q.settle hr (r_w2 b hb).1 (r_w2 b hb).2 (fun _ => rfl)⟩
  rw [if_neg h1, if_neg h1, if_neg h1, if_neg h1]
  unfold s_wk2 s_wk3 s_wk4 s_wk5
  by_cases h2 : nI a = 2
  · have h3 : ¬ nI a = 3 := fun g => absurd (h2.symm.trans g) (by decide)
    have h4 : ¬ nI a = 4 := fun g => absurd (h2.symm.trans g) (by decide)
    simp only [if_pos h2, if_neg h3, if_neg h4]
    rw [k_wrI_ne (by omega), a5]
    unfold k_wrV k_wrI
    rw [c4, c5, a5]
    by_cases hb1 : nI b = 1
    · rw [if_pos hb1, if_pos hb1, hb1, r_one]
      by_cases hl : k_within (nI d) 1 16 = 0
      · rw [if_pos hl, if_neg (by decide), hl]
        unfold k_fill
        rw [if_pos hl]
        exact ⟨S, fail⟩
      · rw [if_neg hl]
        obtain ⟨j, hj, e1, e2⟩ := lev hl
        unfold k_fill
        rw [if_neg hl, e1, e2, k_tn_nI (by omega)]
        exact ⟨S, ((q.out ht hj).fil ht hj).settle hr ⟨fun g => absurd g hl, fun g => absurd rfl g⟩ (Or.inl rfl) (fun _ => rfl)⟩
    · rw [if_neg hb1, if_neg hb1, r_one_ne hb1, if_pos rfl]
      by_cases hb2 : nI b = 2
      · rw [if_pos hb2, if_pos hb2, if_pos hb2]
        by_cases hl : nI d = 0
        · rw [if_pos hl, if_pos hl, if_pos hl]
          unfold k_aim
          by_cases hv : s_out (J 84 r) (-10000) 10000 = 0
          · have hv2 : ¬ k_within (J 84 r) (-10000) 10000 = 0 := fun g => (r_out _ _ _).mp g hv
            rw [if_pos hv, if_neg hv2, if_neg hv2, k_tn_nI (by omega)]
            exact ⟨S, (q.l0 ht hv).settle hr ⟨fun g => absurd g (by decide), fun g => absurd rfl g⟩ (Or.inl rfl) (fun _ => rfl)⟩
          · have hv2 : k_within (J 84 r) (-10000) 10000 = 0 := (r_out _ _ _).mpr hv
            rw [if_neg hv, if_pos hv2, if_pos hv2]
            exact ⟨S, fail⟩
        · rw [if_neg hl, if_neg hl, if_neg hl]
          exact ⟨S, fail⟩
      · rw [if_neg hb2, if_neg hb2, if_neg hb2]
        exact ⟨S, fail⟩
  by_cases h3 : nI a = 3
  · have h4 : ¬ nI a = 4 := fun g => absurd (h3.symm.trans g) (by decide)
    simp only [if_neg h2, if_pos h3, if_neg h4]
    by_cases hb1 : nI b = 1
    · rw [if_pos hb1, if_pos hb1, if_pos hb1, hb1, r_one, k_rel_ne (by omega), a5]
      unfold k_rel
      by_cases hl : k_within (nI d) 1 16 = 0
      · rw [if_pos hl, if_pos hl, if_pos hl]
        exact ⟨S, fail⟩
      · rw [if_neg hl, if_neg hl, if_neg hl]
        obtain ⟨j, hj, e1, e2⟩ := lev hl
        rw [e1, e2, k_tn_nI (by omega)]
        exact ⟨S, (q.fil ht hj).settle hr ⟨fun g => absurd g (by decide), fun g => absurd rfl g⟩ (Or.inl rfl) (fun _ => rfl)⟩
    · rw [if_neg hb1, if_neg hb1, if_neg hb1, r_one_ne hb1, if_pos rfl]
      exact ⟨S, fail⟩
  by_cases h4 : nI a = 4
  · simp only [if_neg h2, if_neg h3, if_pos h4]
    rcases r_w1 b hb with ⟨g1, g2⟩ | ⟨g1, g2, g3⟩
    · rw [if_pos g1, if_pos g1, if_pos g1, if_pos g2]
      exact ⟨S, fail⟩
    · rw [if_neg g1, if_neg g1, if_neg g1, if_neg g2, ew, k_sbI_ne hm3 (by omega), a5]
      obtain ⟨v1, v2, S', q2⟩ := sim_subs (w := w) (ob := nI b) q ht hw g3
      refine ⟨S', q2.settle hr ?_ v2 (fun _ => rfl)⟩
      by_cases hv : k_sbV I (8 + 10 * t) (nI w) (nI b) (r_s J S t).length = 0
      · rw [if_pos hv]
        exact ⟨fun _ => v1.mp hv, fun _ => rfl⟩
      · rw [if_neg hv]
        exact ⟨fun g => absurd g (by decide), fun g => absurd (v1.mpr g) hv⟩
  · simp only [if_neg h2, if_neg h3, if_neg h4]
    exact ⟨S, fail⟩
end partBM
