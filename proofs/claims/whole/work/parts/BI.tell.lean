/-! notices: alike -/
theorem srch_list (d e : Nat → Bool) : ∀ (L : List Nat) (j : Nat), (∀ k c, L[k]? = some c → e (j + k) = d c) → (k_srch e L.length j = none ∧ L.find? d = none) ∨ ∃ k c, k_srch e L.length j = some (j + k) ∧ L[k]? = some c ∧ L.find? d = some c
  | [], j, _ => Or.inl ⟨rfl, rfl⟩
  | c :: L, j, h => by
    have h0 : e j = d c := h 0 c rfl
    by_cases hc : d c = true
    · refine Or.inr ⟨0, c, ?_, rfl, List.find?_cons_of_pos hc⟩
      show k_srch e (L.length + 1) j = _
      unfold k_srch
      rw [if_pos (h0.trans hc)]
      rfl
    · have e1 : k_srch e (c :: L).length j = k_srch e L.length (j + 1) := by
        show (if e j = true then some j else k_srch e L.length (j + 1)) = _
        rw [if_neg (fun q => hc (h0.symm.trans q))]
      have e2 : (c :: L).find? d = L.find? d := List.find?_cons_of_neg hc
      rw [e1, e2]
      rcases srch_list d e L (j + 1) (fun k x hx => by rw [show j + 1 + k = j + (k + 1) by omega]; exact h (k + 1) x hx) with ⟨a, b⟩ | ⟨k, x, a, b, g⟩
      · exact Or.inl ⟨a, b⟩
      · exact Or.inr ⟨k + 1, x, by rw [a, show j + 1 + k = j + (k + 1) by omega], b, g⟩
theorem srch_range (p : Nat → Bool) : ∀ n j, k_srch p n j = (List.range' j n).find? p
  | 0, _ => rfl
  | n + 1, j => by
    unfold k_srch
    rw [List.range'_succ]
    by_cases hc : p j = true
    · rw [if_pos hc, List.find?_cons_of_pos hc]
    · rw [if_neg hc, List.find?_cons_of_neg hc, srch_range p n (j + 1)]
theorem srch_filter (p d : Nat → Bool) (n : Nat) : k_srch (fun k => p k && d k) n 0 = ((List.range n).filter p).find? d := by
  have e : (fun k => p k && d k) = (fun a => decide (p a = true ∧ d a = true)) := by
    funext a
    cases p a <;> cases d a <;> rfl
  rw [srch_range, List.find?_filter, List.range_eq_range', e]
section partBI
variable {W : xI} {z : Nat} {I J : xI} {P : xP} {made S s f h n k c : Nat}
theorem r_s_mem (hq : (r_s J S n)[k]? = some c) : c < S ∧ J 90 c = nI n := by
  have := List.mem_of_getElem? hq
  unfold r_s at this
  rw [List.mem_filter] at this
  exact ⟨List.mem_range.mp this.1, by simpa using this.2⟩
theorem r_s_inj {k' : Nat} (hq : (r_s J S n)[k]? = some c) (hq2 : (r_s J S n)[k']? = some c) : k = k' := by
  have hn : (r_s J S n).Nodup := List.Pairwise.filter _ List.nodup_range
  exact (List.getElem?_inj (List.getElem?_eq_some_iff.mp hq).1 hn).mp (hq.trans hq2.symm)
theorem St.ln (q : St W z I J P made S s f) (hn : n < 6) : (r_s J S n).length ≤ 3 := (q.1.2.2.2.1 n hn).2.2.2.1
theorem St.g12 (q : St W z I J P made S s f) (hn : n < 6) : I (8 + 10 * n) 12 = nI (r_s J S n).length := (q.1.2.2.2.1 n hn).2.2.2.2.1
theorem St.sb (q : St W z I J P made S s f) (hn : n < 6) (hq : (r_s J S n)[k]? = some c) : I (8 + 10 * n + 7 + k) 0 = J 91 c ∧ I (8 + 10 * n + 7 + k) 1 = J 92 c ∧ I (8 + 10 * n + 7 + k) 2 = J 93 c ∧ I (8 + 10 * n + 7 + k) 3 = J 94 c := (q.1.2.2.2.1 n hn).2.2.2.2.2 k c hq
theorem St.sr (q : St W z I J P made S s f) : r_sr J S := q.1.2.2.2.2.2.2
/-- a subscription's value and its flag -/
theorem St.sub {j a' : Nat} {v : Int32} (q : St W z I J P made S s f) (hn : n < 6) (hq : (r_s J S n)[k]? = some c) (hj : (j = 2 ∧ a' = 93) ∨ (j = 3 ∧ a' = 94 ∧ (v = 0 ∨ v = 1))) : St W z (x_up I (8 + 10 * n + 7 + k) j v) (x_up J a' c v) P made S s f := by
  have hl := q.ln hn
  have hk : k < (r_s J S n).length := (List.getElem?_eq_some_iff.mp hq).1
  have hm := r_s_mem hq
  obtain ⟨⟨h1, e, ⟨t1, t2, h3⟩, h4, h5, h6, h7⟩, ⟨h8, h9⟩, t4, t5, t6, t7⟩ := q
  have ha : a' = 93 ∨ a' = 94 := by omega
  have hj2 : j = 2 ∨ j = 3 := by omega
  refine ⟨⟨h1, fun a b a2 b2 hp => ?_, ⟨(x_up_ne (by omega)).trans t1, (x_up_ne (by omega)).trans t2, r_rg_c h3 (fun j => x_up_ne (by omega))⟩, fun m hm2 => ?_, fun r hr => ?_, r_r0_c h6 (fun a j _ _ => x_up_ne (by omega)), ?_⟩, ⟨r_fr_c h8 (fun a j _ _ _ => x_up_ne (by omega)) (fun a j _ _ => x_up_ne (by omega)), r_sp_d h9 (fun j _ => ⟨x_up_ne (by omega), x_up_ne (by omega)⟩) (fun j _ _ => x_up_ne (by omega))⟩, (x_up_ne (by omega)).trans t4, (x_up_ne (by omega)).trans t5, (x_up_ne (by omega)).trans t6, t7.1, fun a k g1 g2 => (x_up_ne (by omega)).trans (t7.2 a k g1 g2)⟩
  · have e1 := e _ _ _ _ hp
    unfold pr at hp
    have g1 : a2 ≠ 93 ∧ a2 ≠ 94 ∧ (a < 8 ∨ 100 < a ∨ a % 10 = 8 ∨ a % 10 = 0 ∨ a % 10 = 1 ∨ a % 10 = 2) := by omega
    rw [x_up_ne (by omega), x_up_ne (by omega)]
    exact e1
  · obtain ⟨a1, a2, a3, a4⟩ := h4 m hm2
    refine ⟨(x_up_ne (by omega)).trans a1, r_nr_d a2 (fun a _ _ => x_up_ne (by omega)), r_qu_c a3 (x_up_ne (by omega)) (fun j _ => ⟨x_up_ne (by omega), x_up_ne (by omega)⟩), ?_⟩
    obtain ⟨b1, b2, b3⟩ := a4
    have er : r_s (x_up J a' c v) S m = r_s J S m := r_s_c (fun j _ => x_up_ne (by omega))
    refine ⟨by rw [er]; exact b1, by rw [er, x_up_ne (by omega)]; exact b2, fun k' c' hq' => ?_⟩
    rw [er] at hq'
    have b4 := b3 k' c' hq'
    have hk' : k' < (r_s J S m).length := (List.getElem?_eq_some_iff.mp hq').1
    have hm' := r_s_mem hq'
    by_cases hcc : c' = c
    · subst hcc
      have emn : m = n := (nI_eq (by omega) (by omega)).mp (hm'.2.symm.trans hm.2)
      subst emn
      have ek : k' = k := r_s_inj hq' hq
      subst ek
      rcases hj with ⟨rfl, rfl⟩ | ⟨rfl, rfl, _⟩
      · rw [x_up_ne (j := 0) (by omega), x_up_ne (j := 1) (by omega), x_up_eq (j := 2) ⟨rfl, rfl⟩, x_up_ne (j := 3) (by omega), x_up_ne (b := 91) (by omega), x_up_ne (b := 92) (by omega), x_up_eq (b := 93) ⟨rfl, rfl⟩, x_up_ne (b := 94) (by omega)]
        exact ⟨b4.1, b4.2.1, rfl, b4.2.2.2⟩
      · rw [x_up_ne (j := 0) (by omega), x_up_ne (j := 1) (by omega), x_up_ne (j := 2) (by omega), x_up_eq (j := 3) ⟨rfl, rfl⟩, x_up_ne (b := 91) (by omega), x_up_ne (b := 92) (by omega), x_up_ne (b := 93) (by omega), x_up_eq (b := 94) ⟨rfl, rfl⟩]
        exact ⟨b4.1, b4.2.1, b4.2.2.1, rfl⟩
    · have hne : m ≠ n ∨ k' ≠ k := by
        by_cases e1 : m = n
        · subst e1
          refine Or.inr (fun e2 => ?_)
          subst e2
          rw [hq'] at hq
          exact hcc (Option.some.inj hq)
        · exact Or.inl e1
      rw [x_up_ne (by omega), x_up_ne (by omega), x_up_ne (by omega), x_up_ne (by omega), x_up_ne (by omega), x_up_ne (by omega), x_up_ne (by omega), x_up_ne (by omega)]
      exact b4
  · obtain ⟨b, cc⟩ := h5 r hr
    refine ⟨?_, r_rr_c cc (fun a _ _ => x_up_ne (by omega))⟩
    rw [x_up_ne (by omega), x_up_ne (by omega), x_up_ne (by omega), x_up_ne (by omega), x_up_ne (by omega), x_up_ne (by omega), x_up_ne (by omega), x_up_ne (by omega)]
    exact b
  · obtain ⟨g1, g2, g3, g4⟩ := h7
    refine ⟨(x_up_ne (by omega)).trans g1, g2, fun x hx => ?_, fun x => ?_⟩
    · rw [x_up_ne (by omega), x_up_ne (by omega), x_up_ne (by omega)]
      exact g3 x hx
    · by_cases hc : a' = 94 ∧ x = c
      · rw [x_up_eq ⟨by omega, hc.2⟩]
        rcases hj with hj | hj
        · omega
        · exact hj.2.2
      · rw [x_up_ne (by omega)]
        exact g4 x
theorem St.renew {v : Int32} (q : St W z I J P made S s f) (hn : n < 6) (hq : (r_s J S n)[k]? = some c) : St W z (k_renew I (8 + 10 * n + 7 + k) v) (x_up (x_up J 93 c v) 94 c 0) P made S s f := by
  have q1 := q.sub (j := 2) (a' := 93) (v := v) hn hq (Or.inl ⟨rfl, rfl⟩)
  have hq1 : (r_s (x_up J 93 c v) S n)[k]? = some c := by
    rw [r_s_c (fun j _ => x_up_ne (by omega))]
    exact hq
  exact q1.sub (j := 3) (a' := 94) (v := 0) hn hq1 (Or.inr ⟨rfl, rfl, Or.inl rfl⟩)
theorem St.ov (q : St W z I J P made S s f) (hn : n < 6) (ob : Int32) : k_ov I (8 + 10 * n) ob = s_val J (nI n) ob := by
  have e := q.1.2.1
  refine r_ov (by omega) ⟨q.id hn, q.n5 hn, q.n6 hn, q.n7 hn, q.n8 hn, q.n9 hn, e _ _ _ _ (pr_nd (k := 10) hn (by decide) (by decide)), e _ _ _ _ (pr_no (k := 13) hn (by decide) (by decide)), e _ _ _ _ (pr_no (k := 14) hn (by decide) (by decide)), e _ _ _ _ (pr_no (k := 15) hn (by decide) (by decide)), e _ _ _ _ (pr_no (k := 16) hn (by decide) (by decide))⟩ ⟨e _ _ _ _ (pr_lo (k := 0) hn (by decide)), e _ _ _ _ (pr_lo (k := 1) hn (by decide)), e _ _ _ _ (pr_lo (k := 2) hn (by decide)), e _ _ _ _ (pr_lo (k := 3) hn (by decide))⟩ (fun l hl => ⟨e _ _ _ _ (pr_79 hn hl), e _ _ _ _ (pr_80 hn hl)⟩) ob
/-- the model's frame with a subscription renewed before or after -/
theorem s_spl_up {J : xI} {f s a k : Nat} {v : Int32} (ha : a ≠ 68 ∧ a ≠ 99 ∧ a ≠ 100) : s_spl (x_up J a k v) f s = x_up (s_spl J f s) a k v := by
  unfold s_spl
  rw [x_up_ne (b := 68) (by omega), x_up_ne (b := 68) (by omega), x_up_ne (b := 100) (by omega), x_up_ne (b := 68) (by omega), x_up_ne (b := 99) (by omega)]
  by_cases h1 : J 68 44 ≤ 0
  · rw [if_pos h1, if_pos h1]
  · rw [if_neg h1, if_neg h1]
    by_cases h2 : J 68 42 = nI f
    · rw [if_pos h2, if_pos h2]
      by_cases h3 : J 100 f ≤ J 68 43
      · rw [if_pos h3, if_pos h3]
      · rw [if_neg h3, if_neg h3, x_up_comm (by omega)]
    · rw [if_neg h2, if_neg h2]
def s_av (J : xI) (f : Nat) : Int32 := s_arr J f (s_head J f) (s_rest J f)
theorem s_av_up {J : xI} {f a k : Nat} {v : Int32} (ha : a ≠ 99 ∧ a ≠ 69) : s_av (x_up J a k v) f = s_av J f := by
  have e1 : ∀ k', x_up J a k v 99 k' = J 99 k' := fun k' => x_up_ne (by omega)
  have e2 : ∀ k', x_up J a k v 69 k' = J 69 k' := fun k' => x_up_ne (by omega)
  unfold s_av s_arr s_head s_rest s_hc s_dc
  simp only [e1, e2]
theorem FW.up {I I1 J1 : xI} {fa ba len a k : Nat} {v : Int32} (w : FW I J I1 J1 f fa ba len) (ha : a ≠ 68 ∧ a ≠ 99 ∧ a ≠ 100) : FW I (x_up J a k v) I1 (x_up J1 a k v) f fa ba len := by
  obtain ⟨w1, w2, w3, w4, w5, w6, w7, w8⟩ := w
  refine ⟨w1.r (by omega), w2, (x_up_ne (by omega)).trans w3, w4, w5, fun b j h1 h2 h3 => ?_, (x_up_ne (by omega)).trans w7, w8⟩
  by_cases hc : b = a ∧ j = k
  · rw [x_up_eq hc, x_up_eq hc]
  · rw [x_up_ne (by omega), x_up_ne (by omega), w6 b j h1 h2 h3]
theorem sim_tell (q : St W z I J P made S s 0) (hh : h < 6) (e32 : J 68 32 = nI h) (hq : (r_s J S h)[k]? = some c) : ∃ f, St W z (k_sn I (8 + 10 * h) (8 + 10 * h + 7 + k)) (s_tell J c 0 s) P made S s f := by
  have hl := q.ln hh
  have hk : k < (r_s J S h).length := (List.getElem?_eq_some_iff.mp hq).1
  have hm := r_s_mem hq
  obtain ⟨w, hw, ew⟩ := (q.sr.2.2.1 c hm.1).2.1
  obtain ⟨b0, b1, b2, b3⟩ := q.sb hh hq
  have ev : k_ov I (8 + 10 * h) (I (8 + 10 * h + 7 + k) 1) = s_t0 J c := by
    unfold s_t0
    rw [b1, e32]
    exact q.ov hh _
  have q1 := q.renew (v := s_t0 J c) hh hq
  have fb : FB (k_renew I (8 + 10 * h + 7 + k) (s_t0 J c)) J 0 5 := fun i hi => by
    have := q.fb (fa := 4) (Or.inl ⟨rfl, rfl, rfl⟩) i hi
    rw [k_renew_ne (by omega)]
    exact this
  have w1 := FW.data (ty := 6) (to := nI w) (so := nI h) (sv := 5) (id := 0) (ob := J 92 c) (le := 0) (nu := s_t0 J c) (Or.inl ⟨rfl, rfl, rfl⟩) fb
  have w2 := (w1.up (a := 93) (k := c) (v := s_t0 J c) (by decide)).up (a := 94) (k := c) (v := 0) (by decide)
  obtain ⟨q2, v2⟩ := arrive (Or.inl ⟨rfl, rfl, rfl⟩) q1 w2
  rw [s_spl_up (by decide), s_spl_up (by decide)] at q2 v2
  have v3 : k_arV (k_wd (k_wh (k_renew I (8 + 10 * h + 7 + k) (s_t0 J c)) 4 5 6 (nI w) (nI h) 8) 4 5 5 0 (J 92 c) 0 (s_t0 J c)) 4 5 = s_av (s_spl (s_hd (s_lay J 0 5 0 (J 92 c) 0 (s_t0 J c)) 0 6 (nI w) (nI h) 1) 0 s) 0 := by
    rw [v2]
    show s_av _ 0 = _
    rw [s_av_up (by decide), s_av_up (by decide)]
  have i1 : k_sn1 I (8 + 10 * h) (8 + 10 * h + 7 + k) = k_renew I (8 + 10 * h + 7 + k) (s_t0 J c) := by
    unfold k_sn1
    rw [ev]
  have i1a : k_renew I (8 + 10 * h + 7 + k) (s_t0 J c) (8 + 10 * h + 7 + k) 0 = nI w := by
    unfold k_renew
    rw [x_up_ne (by omega), x_up_ne (by omega), b0, ew]
  have i1b : k_renew I (8 + 10 * h + 7 + k) (s_t0 J c) (8 + 10 * h + 7 + k) 1 = J 92 c := by
    unfold k_renew
    rw [x_up_ne (by omega), x_up_ne (by omega), b1]
  have i2 : k_sn2 I (8 + 10 * h) (8 + 10 * h + 7 + k) = k_wh (k_renew I (8 + 10 * h + 7 + k) (s_t0 J c)) 4 5 6 (nI w) (nI h) 8 := by
    unfold k_sn2
    rw [i1, i1a, q1.id hh]
  have i3 : k_sn3 I (8 + 10 * h) (8 + 10 * h + 7 + k) = k_wd (k_wh (k_renew I (8 + 10 * h + 7 + k) (s_t0 J c)) 4 5 6 (nI w) (nI h) 8) 4 5 5 0 (J 92 c) 0 (s_t0 J c) := by
    unfold k_sn3
    rw [i2, ev, k_wh_ne (by omega) (by omega), i1b]
  have j1 : s_t1 J c 0 91 c = nI w := (s_lay_ne (by omega)).trans ew
  have j2 : s_t1 J c 0 68 32 = nI h := (s_lay_ne (by omega)).trans e32
  unfold k_sn s_tell k_sn4
  rw [i3, j1, j2, v3, ev]
  show ∃ f, St W z (if s_av (s_spl (s_hd (s_lay J 0 5 0 (J 92 c) 0 (s_t0 J c)) 0 6 (nI w) (nI h) 1) 0 s) 0 = 0 then _ else _) (if s_av (s_spl (s_hd (s_lay J 0 5 0 (J 92 c) 0 (s_t0 J c)) 0 6 (nI w) (nI h) 1) 0 s) 0 = 0 then _ else _) P made S s f
  have j3 : s_t3 J c 0 s = x_up (x_up (s_spl (s_hd (s_lay J 0 5 0 (J 92 c) 0 (s_t0 J c)) 0 6 (nI w) (nI h) 1) 0 s) 93 c (s_t0 J c)) 94 c 0 := by
    unfold s_t3 s_t2
    rw [j1, j2]
    rfl
  by_cases hc : s_av (s_spl (s_hd (s_lay J 0 5 0 (J 92 c) 0 (s_t0 J c)) 0 6 (nI w) (nI h) 1) 0 s) 0 = 0
  · rw [if_pos hc, if_pos hc, j3]
    exact ⟨1, q2⟩
  · rw [if_neg hc, if_neg hc, j3, ew, k_tn_nI (by omega)]
    have k0 : k_arI (k_wd (k_wh (k_renew I (8 + 10 * h + 7 + k) (s_t0 J c)) 4 5 6 (nI w) (nI h) 8) 4 5 5 0 (J 92 c) 0 (s_t0 J c)) 4 5 (8 + 10 * h + 7 + k) 0 = nI w := by
      rw [k_arI_ne (by omega) (by omega), k_wd_ne (by omega) (by omega), k_wh_ne (by omega) (by omega), i1a]
    have k1 : k_arI (k_wd (k_wh (k_renew I (8 + 10 * h + 7 + k) (s_t0 J c)) 4 5 6 (nI w) (nI h) 8) 4 5 5 0 (J 92 c) 0 (s_t0 J c)) 4 5 (8 + 10 * h + 7 + k) 1 = J 92 c := by
      rw [k_arI_ne (by omega) (by omega), k_wd_ne (by omega) (by omega), k_wh_ne (by omega) (by omega), i1b]
    rw [k0, k1, q2.id hh, k_nd_nI (by omega)]
    have m32 : x_up (x_up (s_spl (s_hd (s_lay J 0 5 0 (J 92 c) 0 (s_t0 J c)) 0 6 (nI w) (nI h) 1) 0 s) 93 c (s_t0 J c)) 94 c 0 68 32 = nI h := by
      rw [x_up_ne (by omega), x_up_ne (by omega), s_spl_ne (by omega), s_hd_ne (by omega) (by omega) (by omega), s_lay_ne (by omega), e32]
    have m92 : x_up (x_up (s_spl (s_hd (s_lay J 0 5 0 (J 92 c) 0 (s_t0 J c)) 0 6 (nI w) (nI h) 1) 0 s) 93 c (s_t0 J c)) 94 c 0 92 c = J 92 c := by
      rw [x_up_ne (by omega), x_up_ne (by omega), s_spl_ne (by omega), s_hd_ne (by omega) (by omega) (by omega), s_lay_ne (by omega)]
    generalize k_arI (k_wd (k_wh (k_renew I (8 + 10 * h + 7 + k) (s_t0 J c)) 4 5 6 (nI w) (nI h) 8) 4 5 5 0 (J 92 c) 0 (s_t0 J c)) 4 5 = I' at q2 ⊢
    generalize x_up (x_up (s_spl (s_hd (s_lay J 0 5 0 (J 92 c) 0 (s_t0 J c)) 0 6 (nI w) (nI h) 1) 0 s) 93 c (s_t0 J c)) 94 c 0 = J' at q2 m32 m92 ⊢
    unfold k_note s_t6 s_t5 s_t4
    rw [m32, x_up_ne (b := 92) (by omega), m92]
    have q3 := ((q2.f13 (n := w) (v := nI h) hw).f14 (n := w) (v := J 92 c) hw).f15 (n := w) (v := s_t0 J c) hw
    rw [q3.g (pr_no (k := 16) hw (by decide) (by decide))]
    exact ⟨1, q3.f16 hw⟩
end partBI
