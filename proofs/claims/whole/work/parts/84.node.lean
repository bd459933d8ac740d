theorem xp_sw1 {G : xG} {M : xM} {pc : Nat} {lv : List (Nat × Value)} {st : List Value} {h : xH} {bc bs : Nat} {post : Option Value → xH → Prop} {dflt lo hi : Int} {offs : Array Int} {len : Nat} {x : Int32} {off : Int} {tgt : Nat} (v : Int32) (hd : decode M.2.1 pc = .ok (.tableswitch dflt lo hi offs, len)) (hv : lo ≤ v.toInt ∧ v.toInt ≤ hi) (ho : offs[(v.toInt - lo).toNat]? = some off) (ht : (pc : Int) + off = (tgt : Int))
    (k1 : x = v → xp G M tgt lv st h bc bs post) (k2 : ¬ x = v → xp G M pc lv (.int x :: st) h bc bs post) : xp G M pc lv (.int x :: st) h bc bs post := by
  by_cases hx : x = v
  · subst hx
    exact xp_tableIn hd (by omega) (by omega) ho ht (k1 rfl)
  · exact k2 hx
theorem x_neT {x k : Int32} {a : Int} (h : ¬ x = k) (hk : k.toInt = a) : ¬ x.toInt = a := fun q => h (Int32.toInt_inj.mp (by rw [hk]; exact q))
/-- a node's cells and pointers, its address being nd -/
def x_node (z : Nat) (P : Nat → Nat → Option Nat) (nd : Nat) : Prop := (x_at 6 z nd ∧ x_at 4 z (nd + 1) ∧ x_ar 100 16 z (nd + 2) ∧ x_ar 101 16 z (nd + 3) ∧ x_at 5 z (nd + 4) ∧ x_ar 103 4 z (nd + 5) ∧ x_ar 104 3 z (nd + 6)) ∧ (∀ k, k < 3 → x_at 3 z (nd + 7 + k)) ∧
  (P nd 1 = some (nd + 1) ∧ P (nd + 1) 0 = some (nd + 2) ∧ P (nd + 1) 1 = some (nd + 3) ∧ P nd 2 = some (nd + 4) ∧ P nd 3 = some (nd + 5) ∧ P nd 4 = some (nd + 6)) ∧ ∀ k, k < 3 → P (nd + 6) k = some (nd + 7 + k)
abbrev xI : Type := Nat → Nat → Int32
abbrev xP : Type := Nat → Nat → Option Nat
def k_fo (I : xI) (nd : Nat) : xI := x_up (x_up I nd 6 (I nd 0)) nd 7 (x_up I nd 6 (I nd 0) nd 0)
def k_gp (I : xI) (nd : Nat) : xI := x_up (x_up (x_up (k_fo (x_up I nd 5 1) nd) nd 8 0) (nd + 4) 3 0) nd 12 0
def k_gt (I : xI) (nd : Nat) : xI := x_up (x_up I nd 8 (I nd 8 + 1)) nd 9 (x_up I nd 8 (I nd 8 + 1) nd 9 + 1)
def k_deq (P : xP) (qa : Nat) : Nat → xP
  | 0 => P
  | k + 1 => x_upP (k_deq P qa k) qa k (P qa (k + 1))
def k_ov (I : xI) (nd : Nat) (ob : Int32) : Int32 := if ob = 0 then I nd 10 else if ob = 1 then k_cur (I (nd + 2)) (I (nd + 3)) 16 0 else if ob = 2 then I (nd + 4) 0 else 0
def k_srch (p : Nat → Bool) : Nat → Nat → Option Nat
  | 0, _ => none
  | n + 1, k => if p k = true then some k else k_srch p n (k + 1)
def k_wrI (I : xI) (nd r : Nat) : xI := if I r 3 = 1 then k_fill I (nd + 2) (nd + 3) (I r 4) (I r 5) else if I r 3 = 2 then (if I r 4 = 0 then k_aim I (nd + 4) (I r 5) else I) else I
def k_wrV (I : xI) (r : Nat) : Int32 := if I r 3 = 1 then k_within (I r 4) 1 16 else if I r 3 = 2 then (if I r 4 = 0 then (if k_within (I r 5) (-10000) 10000 = 0 then 0 else 1) else 0) else 0
def k_sbI (I : xI) (nd : Nat) (who ob : Int32) (m : Nat) : xI := match k_srch (fun k => decide (I (nd + 7 + k) 0 = who ∧ I (nd + 7 + k) 1 = ob)) m 0 with
  | some k => k_renew I (nd + 7 + k) (k_ov I nd ob)
  | none => if m < 3 then x_up (k_begin I (nd + 7 + m) who ob (k_ov I nd ob)) nd 12 (k_begin I (nd + 7 + m) who ob (k_ov I nd ob) nd 12 + 1) else I
def k_sbV (I : xI) (nd : Nat) (who ob : Int32) (m : Nat) : Int32 := match k_srch (fun k => decide (I (nd + 7 + k) 0 = who ∧ I (nd + 7 + k) 1 = ob)) m 0 with
  | some _ => 1
  | none => if m < 3 then 1 else 0
def k_note (I : xI) (nd : Nat) (w ob v : Int32) : xI := x_up (x_up (x_up (x_up I nd 13 w) nd 14 ob) nd 15 v) nd 16 (x_up (x_up (x_up I nd 13 w) nd 14 ob) nd 15 v nd 16 + 1)
def k_run (I : xI) (nd : Nat) : xI := if k_off I (nd + 4) = 0 then k_fill (k_sum I (nd + 4) (I nd 10)) (nd + 2) (nd + 3) 15 (k_ctl I (nd + 4) (I nd 10)) else I
def k_fd1 (I : xI) (nd k : Nat) : xI := x_up I (nd + 7 + k) 3 (k_far (k_ov I nd (I (nd + 7 + k) 1)) (I (nd + 7 + k) 2))
def k_fd (I : xI) (nd : Nat) : Nat → xI
  | 0 => I
  | k + 1 => k_fd1 (k_fd I nd k) nd k
def k_fact (I : xI) (nd : Nat) (w : Int32) : Int32 := if w = 0 then (if I nd 5 = 0 then 0 else 1) else if w = 1 then I nd 6 else if w = 2 then I nd 7 else if w = 3 then I nd 8 else if w = 4 then I nd 11 else if w = 5 then I nd 9 else if w = 6 then I nd 12 else if w = 7 then I (nd + 4) 3 else -1
def k_nf (I : xI) (nd : Nat) (w : Int32) : Int32 := if w = 3 then I nd 16 else if I nd 16 = 0 then -1 else if w = 0 then I nd 13 else if w = 1 then I nd 14 else if w = 2 then I nd 15 else -1
/-- what carrying a request out gives: done, answer, and the cells -/
def k_coV (I : xI) (nd r : Nat) (who : Int32) (m : Nat) : Int32 := if I r 2 = 1 then k_within (I r 3) 0 2 else if I r 2 = 2 then k_wrV I r else if I r 2 = 3 then (if I r 3 = 1 then (if k_within (I r 4) 1 16 = 0 then 0 else 1) else 0) else if I r 2 = 4 then (if k_within (I r 3) 0 1 = 0 then 0 else (if k_sbV I nd who (I r 3) m = 0 then 0 else 1)) else 0
def k_coI (I : xI) (nd r : Nat) (who : Int32) (m : Nat) : xI := if I r 2 = 1 then I else if I r 2 = 2 then k_wrI I nd r else if I r 2 = 3 then (if I r 3 = 1 then k_rel I (nd + 3) (I r 4) else I) else if I r 2 = 4 then (if k_within (I r 3) 0 1 = 0 then I else k_sbI I nd who (I r 3) m) else I
def k_coA (I : xI) (nd r : Nat) (who : Int32) (m : Nat) : Int32 := if I r 2 = 1 then k_ov I nd (I r 3) else if I r 2 = 2 then k_wrI I nd r r 5 else if I r 2 = 3 then (if I r 3 = 1 then k_rel I (nd + 3) (I r 4) r 5 else I r 5) else if I r 2 = 4 then (if k_within (I r 3) 0 1 = 0 then I r 5 else k_sbI I nd who (I r 3) m r 5) else 0
theorem k_wrV_01 (I : xI) (r : Nat) : k_wrV I r = 0 ∨ k_wrV I r = 1 := by
  unfold k_wrV
  by_cases h1 : I r 3 = 1
  · rw [if_pos h1]
    exact k_within_01 _ _ _
  · rw [if_neg h1]
    by_cases h2 : I r 3 = 2
    · rw [if_pos h2]
      by_cases h3 : I r 4 = 0
      · rw [if_pos h3]
        by_cases h4 : k_within (I r 5) (-10000) 10000 = 0
        · exact Or.inl (if_pos h4)
        · exact Or.inr (if_neg h4)
      · exact Or.inl (if_neg h3)
    · exact Or.inl (if_neg h2)
theorem k_deq_ne {P : xP} {qa a : Nat} (h : a ≠ qa) : ∀ k, k_deq P qa k a = P a
  | 0 => rfl
  | k + 1 => by
    show x_upP (k_deq P qa k) qa k _ a = _
    unfold x_upP
    rw [if_neg h, k_deq_ne h k]
theorem k_deq_ge {P : xP} {qa : Nat} : ∀ (k j : Nat), k ≤ j → k_deq P qa k qa j = P qa j
  | 0, _, _ => rfl
  | k + 1, j, h => by
    show x_upP (k_deq P qa k) qa k _ qa j = _
    rw [x_upP_ne (by omega), k_deq_ge k j (by omega)]
theorem k_fd_row {I : xI} {nd a : Nat} (h : a < nd + 7) : ∀ k, k_fd I nd k a = I a
  | 0 => rfl
  | k + 1 => by
    show x_up (k_fd I nd k) (nd + 7 + k) 3 _ a = _
    unfold x_up
    rw [if_neg (by omega), k_fd_row h k]
section part84
variable {G : xG} {z : Nat} {I : Nat → Nat → Int32} {P : Nat → Nat → Option Nat} {post : Option Value → xH → Prop} {nd : Nat}
set_option maxRecDepth 100000 in
set_option maxHeartbeats 4000000 in
theorem c_N_forgetOthers (hn : x_node z P nd)  (hp : post none (z, k_fo I nd, P)) : xp G M_N_forgetOthers 0 [(0, .ref nd)] [] (z, I, P) 0 0 post := by
  obtain ⟨⟨tN, tO, tna, tfl, tL, tq, ts⟩, hs3, ⟨p1, p2, p3, p4, p5, p6⟩, hss⟩ := id hn
  refine xp_aload_n d_N_forgetOthers_0 rfl ?_
  refine xp_aload_n d_N_forgetOthers_1 rfl ?_
  refine xq_getI d_N_forgetOthers_2 fg_N_37 (by assumption) ?_
  refine xq_putI d_N_forgetOthers_5 f_N_41 (by assumption) ?_
  refine xp_aload_n d_N_forgetOthers_8 rfl ?_
  refine xp_aload_n d_N_forgetOthers_9 rfl ?_
  refine xq_getI d_N_forgetOthers_10 fg_N_37 (by assumption) ?_
  refine xq_putI d_N_forgetOthers_13 f_N_44 (by assumption) ?_
  refine xp_return_ d_N_forgetOthers_16 rfl ?_
  exact hp
set_option maxRecDepth 100000 in
set_option maxHeartbeats 4000000 in
theorem c_N_getPower (hn : x_node z P nd)  (hp : post none (z, k_gp I nd, P)) : xp G M_N_getPower 0 [(0, .ref nd)] [] (z, I, P) 0 0 post := by
  obtain ⟨⟨tN, tO, tna, tfl, tL, tq, ts⟩, hs3, ⟨p1, p2, p3, p4, p5, p6⟩, hss⟩ := id hn
  refine xp_aload_n d_N_getPower_0 rfl ?_
  refine xp_iconst (v := 1) d_N_getPower_1 (by decide) ?_
  refine xq_putZ d_N_getPower_2 f_N_48 (by first | exact Or.inl rfl | exact Or.inr rfl | assumption) (by assumption) ?_
  refine xp_aload_n d_N_getPower_5 rfl ?_
  refine xq_V0v d_N_getPower_6 g_N_getPower_52 (by assumption) rfl rfl ?_
  refine c_N_forgetOthers hn ?_
  refine ⟨rfl, ?_⟩
  refine xp_aload_n d_N_getPower_9 rfl ?_
  refine xp_iconst (v := 0) d_N_getPower_10 (by decide) ?_
  refine xq_putI d_N_getPower_11 f_N_55 (by assumption) ?_
  refine xp_aload_n d_N_getPower_14 rfl ?_
  refine xq_getR d_N_getPower_15 fg_N_21 (by assumption) (by assumption) ?_
  refine xp_iconst (v := 0) d_N_getPower_18 (by decide) ?_
  refine xq_putI d_N_getPower_19 f_N_58 (by assumption) ?_
  refine xp_aload_n d_N_getPower_22 rfl ?_
  refine xp_iconst (v := 0) d_N_getPower_23 (by decide) ?_
  refine xq_putI d_N_getPower_24 f_N_61 (by assumption) ?_
  refine xp_return_ d_N_getPower_27 rfl ?_
  exact hp
set_option maxRecDepth 100000 in
set_option maxHeartbeats 4000000 in
theorem c_N_getToken (hn : x_node z P nd)  (hp : post none (z, k_gt I nd, P)) : xp G M_N_getToken 0 [(0, .ref nd)] [] (z, I, P) 0 0 post := by
  obtain ⟨⟨tN, tO, tna, tfl, tL, tq, ts⟩, hs3, ⟨p1, p2, p3, p4, p5, p6⟩, hss⟩ := id hn
  refine xp_aload_n d_N_getToken_0 rfl ?_
  refine xp_dup d_N_getToken_1 rfl ?_
  refine xq_getI d_N_getToken_2 fg_N_55 (by assumption) ?_
  refine xp_iconst (v := 1) d_N_getToken_5 (by decide) ?_
  refine xp_iadd d_N_getToken_6 ?_
  refine xq_putI d_N_getToken_7 f_N_55 (by assumption) ?_
  refine xp_aload_n d_N_getToken_10 rfl ?_
  refine xp_dup d_N_getToken_11 rfl ?_
  refine xq_getI d_N_getToken_12 fg_N_64 (by assumption) ?_
  refine xp_iconst (v := 1) d_N_getToken_15 (by decide) ?_
  refine xp_iadd d_N_getToken_16 ?_
  refine xq_putI d_N_getToken_17 f_N_64 (by assumption) ?_
  refine xp_return_ d_N_getToken_20 rfl ?_
  exact hp
set_option maxRecDepth 100000 in
set_option maxHeartbeats 4000000 in
theorem c_N_note (hn : x_node z P nd) {w ob v : Int32} (hp : post none (z, k_note I nd w ob v, P)) : xp G M_N_note 0 [(0, .ref nd), (1, .int w), (2, .int ob), (3, .int v)] [] (z, I, P) 0 0 post := by
  obtain ⟨⟨tN, tO, tna, tfl, tL, tq, ts⟩, hs3, ⟨p1, p2, p3, p4, p5, p6⟩, hss⟩ := id hn
  refine xp_aload_n d_N_note_0 rfl ?_
  refine xp_iload_n d_N_note_1 rfl ?_
  refine xq_putI d_N_note_2 f_N_135 (by assumption) ?_
  refine xp_aload_n d_N_note_5 rfl ?_
  refine xp_iload_n d_N_note_6 rfl ?_
  refine xq_putI d_N_note_7 f_N_138 (by assumption) ?_
  refine xp_aload_n d_N_note_10 rfl ?_
  refine xp_iload_n d_N_note_11 rfl ?_
  refine xq_putI d_N_note_12 f_N_141 (by assumption) ?_
  refine xp_aload_n d_N_note_15 rfl ?_
  refine xp_dup d_N_note_16 rfl ?_
  refine xq_getI d_N_note_17 fg_N_144 (by assumption) ?_
  refine xp_iconst (v := 1) d_N_note_20 (by decide) ?_
  refine xp_iadd d_N_note_21 ?_
  refine xq_putI d_N_note_22 f_N_144 (by assumption) ?_
  refine xp_return_ d_N_note_25 rfl ?_
  exact hp
set_option maxRecDepth 100000 in
set_option maxHeartbeats 4000000 in
theorem c_N_objectValue (hn : x_node z P nd) {ob : Int32} (hp : post (some (.int (k_ov I nd ob))) (z, I, P)) : xp G M_N_objectValue 0 [(0, .ref nd), (1, .int ob)] [] (z, I, P) 0 0 post := by
  obtain ⟨⟨tN, tO, tna, tfl, tL, tq, ts⟩, hs3, ⟨p1, p2, p3, p4, p5, p6⟩, hss⟩ := id hn
  unfold k_ov at hp
  refine xp_iload_n d_N_objectValue_0 rfl ?_
  refine xp_sw1 0 (tgt := 28) (off := 27) d_N_objectValue_1 (by decide) (by decide) (by decide) (fun s1_0 => ?_) (fun s1_0 => ?_)
  · skip
    refine xp_aload_n d_N_objectValue_28 rfl ?_
    refine xq_getI d_N_objectValue_29 fg_N_70 (by assumption) ?_
    refine xp_ireturn d_N_objectValue_32 rfl rfl ?_
    simp only [if_pos s1_0] at hp
    exact hp
  · skip
    refine xp_sw1 1 (tgt := 33) (off := 32) d_N_objectValue_1 (by decide) (by decide) (by decide) (fun s1_1 => ?_) (fun s1_1 => ?_)
    · skip
      refine xp_aload_n d_N_objectValue_33 rfl ?_
      refine xq_getR d_N_objectValue_34 fg_N_12 (by assumption) (by assumption) ?_
      refine xq_V0r d_N_objectValue_37 g_N_objectValue_73 (by assumption) rfl rfl ?_
      refine c_O_current tO tna tfl p2 p3 ?_
      refine ⟨_, rfl, ?_⟩
      refine xp_ireturn d_N_objectValue_40 rfl rfl ?_
      simp only [if_neg s1_0, if_pos s1_1] at hp
      exact hp
    · skip
      refine xp_sw1 2 (tgt := 41) (off := 40) d_N_objectValue_1 (by decide) (by decide) (by decide) (fun s1_2 => ?_) (fun s1_2 => ?_)
      · skip
        refine xp_aload_n d_N_objectValue_41 rfl ?_
        refine xq_getR d_N_objectValue_42 fg_N_21 (by assumption) (by assumption) ?_
        refine xq_getI d_N_objectValue_45 fg_N_77 (by assumption) ?_
        refine xp_ireturn d_N_objectValue_48 rfl rfl ?_
        simp only [if_neg s1_0, if_neg s1_1, if_pos s1_2] at hp
        exact hp
      · skip
        have ns1_0 := x_neT s1_0 (show (0 : Int32).toInt = 0 by decide)
        have ns1_1 := x_neT s1_1 (show (1 : Int32).toInt = 1 by decide)
        have ns1_2 := x_neT s1_2 (show (2 : Int32).toInt = 2 by decide)
        refine xp_tableOut (tgt := 49) d_N_objectValue_1 (by omega) (by decide) ?_
        refine xp_iconst (v := 0) d_N_objectValue_49 (by decide) ?_
        refine xp_ireturn d_N_objectValue_50 rfl rfl ?_
        simp only [if_neg s1_0, if_neg s1_1, if_neg s1_2] at hp
        exact hp
set_option maxRecDepth 100000 in
set_option maxHeartbeats 4000000 in
theorem c_N_fact (hn : x_node z P nd) {w : Int32} (hp : post (some (.int (k_fact I nd w))) (z, I, P)) : xp G M_N_fact 0 [(0, .ref nd), (1, .int w)] [] (z, I, P) 0 0 post := by
  obtain ⟨⟨tN, tO, tna, tfl, tL, tq, ts⟩, hs3, ⟨p1, p2, p3, p4, p5, p6⟩, hss⟩ := id hn
  unfold k_fact at hp
  refine xp_iload_n d_N_fact_0 rfl ?_
  refine xp_sw1 0 (tgt := 48) (off := 47) d_N_fact_1 (by decide) (by decide) (by decide) (fun s1_0 => ?_) (fun s1_0 => ?_)
  · skip
    refine xp_aload_n d_N_fact_48 rfl ?_
    refine xq_getI d_N_fact_49 fg_N_48 (by assumption) ?_
    refine xp_if_eq (tgt := 59) d_N_fact_52 (by decide) (fun c52 => ?_) (fun c52 => ?_)
    · skip
      refine xp_iconst (v := 0) d_N_fact_59 (by decide) ?_
      refine xp_ireturn d_N_fact_60 rfl rfl ?_
      simp only [if_pos s1_0, if_pos c52] at hp
      exact hp
    · skip
      refine xp_iconst (v := 1) d_N_fact_55 (by decide) ?_
      refine xp_goto (tgt := 60) d_N_fact_56 (by decide) ?_
      refine xp_ireturn d_N_fact_60 rfl rfl ?_
      simp only [if_pos s1_0, if_neg c52] at hp
      exact hp
  · skip
    refine xp_sw1 1 (tgt := 61) (off := 60) d_N_fact_1 (by decide) (by decide) (by decide) (fun s1_1 => ?_) (fun s1_1 => ?_)
    · skip
      refine xp_aload_n d_N_fact_61 rfl ?_
      refine xq_getI d_N_fact_62 fg_N_41 (by assumption) ?_
      refine xp_ireturn d_N_fact_65 rfl rfl ?_
      simp only [if_neg s1_0, if_pos s1_1] at hp
      exact hp
    · skip
      refine xp_sw1 2 (tgt := 66) (off := 65) d_N_fact_1 (by decide) (by decide) (by decide) (fun s1_2 => ?_) (fun s1_2 => ?_)
      · skip
        refine xp_aload_n d_N_fact_66 rfl ?_
        refine xq_getI d_N_fact_67 fg_N_44 (by assumption) ?_
        refine xp_ireturn d_N_fact_70 rfl rfl ?_
        simp only [if_neg s1_0, if_neg s1_1, if_pos s1_2] at hp
        exact hp
      · skip
        refine xp_sw1 3 (tgt := 71) (off := 70) d_N_fact_1 (by decide) (by decide) (by decide) (fun s1_3 => ?_) (fun s1_3 => ?_)
        · skip
          refine xp_aload_n d_N_fact_71 rfl ?_
          refine xq_getI d_N_fact_72 fg_N_55 (by assumption) ?_
          refine xp_ireturn d_N_fact_75 rfl rfl ?_
          simp only [if_neg s1_0, if_neg s1_1, if_neg s1_2, if_pos s1_3] at hp
          exact hp
        · skip
          refine xp_sw1 4 (tgt := 76) (off := 75) d_N_fact_1 (by decide) (by decide) (by decide) (fun s1_4 => ?_) (fun s1_4 => ?_)
          · skip
            refine xp_aload_n d_N_fact_76 rfl ?_
            refine xq_getI d_N_fact_77 fg_N_67 (by assumption) ?_
            refine xp_ireturn d_N_fact_80 rfl rfl ?_
            simp only [if_neg s1_0, if_neg s1_1, if_neg s1_2, if_neg s1_3, if_pos s1_4] at hp
            exact hp
          · skip
            refine xp_sw1 5 (tgt := 81) (off := 80) d_N_fact_1 (by decide) (by decide) (by decide) (fun s1_5 => ?_) (fun s1_5 => ?_)
            · skip
              refine xp_aload_n d_N_fact_81 rfl ?_
              refine xq_getI d_N_fact_82 fg_N_64 (by assumption) ?_
              refine xp_ireturn d_N_fact_85 rfl rfl ?_
              simp only [if_neg s1_0, if_neg s1_1, if_neg s1_2, if_neg s1_3, if_neg s1_4, if_pos s1_5] at hp
              exact hp
            · skip
              refine xp_sw1 6 (tgt := 86) (off := 85) d_N_fact_1 (by decide) (by decide) (by decide) (fun s1_6 => ?_) (fun s1_6 => ?_)
              · skip
                refine xp_aload_n d_N_fact_86 rfl ?_
                refine xq_getI d_N_fact_87 fg_N_61 (by assumption) ?_
                refine xp_ireturn d_N_fact_90 rfl rfl ?_
                simp only [if_neg s1_0, if_neg s1_1, if_neg s1_2, if_neg s1_3, if_neg s1_4, if_neg s1_5, if_pos s1_6] at hp
                exact hp
              · skip
                refine xp_sw1 7 (tgt := 91) (off := 90) d_N_fact_1 (by decide) (by decide) (by decide) (fun s1_7 => ?_) (fun s1_7 => ?_)
                · skip
                  refine xp_aload_n d_N_fact_91 rfl ?_
                  refine xq_getR d_N_fact_92 fg_N_21 (by assumption) (by assumption) ?_
                  refine xq_getI d_N_fact_95 fg_N_58 (by assumption) ?_
                  refine xp_ireturn d_N_fact_98 rfl rfl ?_
                  simp only [if_neg s1_0, if_neg s1_1, if_neg s1_2, if_neg s1_3, if_neg s1_4, if_neg s1_5, if_neg s1_6, if_pos s1_7] at hp
                  exact hp
                · skip
                  have ns1_0 := x_neT s1_0 (show (0 : Int32).toInt = 0 by decide)
                  have ns1_1 := x_neT s1_1 (show (1 : Int32).toInt = 1 by decide)
                  have ns1_2 := x_neT s1_2 (show (2 : Int32).toInt = 2 by decide)
                  have ns1_3 := x_neT s1_3 (show (3 : Int32).toInt = 3 by decide)
                  have ns1_4 := x_neT s1_4 (show (4 : Int32).toInt = 4 by decide)
                  have ns1_5 := x_neT s1_5 (show (5 : Int32).toInt = 5 by decide)
                  have ns1_6 := x_neT s1_6 (show (6 : Int32).toInt = 6 by decide)
                  have ns1_7 := x_neT s1_7 (show (7 : Int32).toInt = 7 by decide)
                  refine xp_tableOut (tgt := 99) d_N_fact_1 (by omega) (by decide) ?_
                  refine xp_iconst (v := -1) d_N_fact_99 (by decide) ?_
                  refine xp_ireturn d_N_fact_100 rfl rfl ?_
                  simp only [if_neg s1_0, if_neg s1_1, if_neg s1_2, if_neg s1_3, if_neg s1_4, if_neg s1_5, if_neg s1_6, if_neg s1_7] at hp
                  exact hp
set_option maxRecDepth 100000 in
set_option maxHeartbeats 4000000 in
theorem c_N_notedFact (hn : x_node z P nd) {w : Int32} (hp : post (some (.int (k_nf I nd w))) (z, I, P)) : xp G M_N_notedFact 0 [(0, .ref nd), (1, .int w)] [] (z, I, P) 0 0 post := by
  obtain ⟨⟨tN, tO, tna, tfl, tL, tq, ts⟩, hs3, ⟨p1, p2, p3, p4, p5, p6⟩, hss⟩ := id hn
  unfold k_nf at hp
  refine xp_iload_n d_N_notedFact_0 rfl ?_
  refine xp_iconst (v := 3) d_N_notedFact_1 (by decide) ?_
  refine xp_icmp_ne (tgt := 10) d_N_notedFact_2 (by decide) (fun c2 => ?_) (fun c2 => ?_)
  · skip
    refine xp_aload_n d_N_notedFact_10 rfl ?_
    refine xq_getI d_N_notedFact_11 fg_N_144 (by assumption) ?_
    refine xp_if_ne (tgt := 19) d_N_notedFact_14 (by decide) (fun c14 => ?_) (fun c14 => ?_)
    · skip
      refine xp_iload_n d_N_notedFact_19 rfl ?_
      refine xp_sw1 0 (tgt := 48) (off := 28) d_N_notedFact_20 (by decide) (by decide) (by decide) (fun s20_0 => ?_) (fun s20_0 => ?_)
      · skip
        refine xp_aload_n d_N_notedFact_48 rfl ?_
        refine xq_getI d_N_notedFact_49 fg_N_135 (by assumption) ?_
        refine xp_ireturn d_N_notedFact_52 rfl rfl ?_
        simp only [if_neg c2, if_neg c14, if_pos s20_0] at hp
        exact hp
      · skip
        refine xp_sw1 1 (tgt := 53) (off := 33) d_N_notedFact_20 (by decide) (by decide) (by decide) (fun s20_1 => ?_) (fun s20_1 => ?_)
        · skip
          refine xp_aload_n d_N_notedFact_53 rfl ?_
          refine xq_getI d_N_notedFact_54 fg_N_138 (by assumption) ?_
          refine xp_ireturn d_N_notedFact_57 rfl rfl ?_
          simp only [if_neg c2, if_neg c14, if_neg s20_0, if_pos s20_1] at hp
          exact hp
        · skip
          refine xp_sw1 2 (tgt := 58) (off := 38) d_N_notedFact_20 (by decide) (by decide) (by decide) (fun s20_2 => ?_) (fun s20_2 => ?_)
          · skip
            refine xp_aload_n d_N_notedFact_58 rfl ?_
            refine xq_getI d_N_notedFact_59 fg_N_141 (by assumption) ?_
            refine xp_ireturn d_N_notedFact_62 rfl rfl ?_
            simp only [if_neg c2, if_neg c14, if_neg s20_0, if_neg s20_1, if_pos s20_2] at hp
            exact hp
          · skip
            have ns20_0 := x_neT s20_0 (show (0 : Int32).toInt = 0 by decide)
            have ns20_1 := x_neT s20_1 (show (1 : Int32).toInt = 1 by decide)
            have ns20_2 := x_neT s20_2 (show (2 : Int32).toInt = 2 by decide)
            refine xp_tableOut (tgt := 63) d_N_notedFact_20 (by omega) (by decide) ?_
            refine xp_iconst (v := -1) d_N_notedFact_63 (by decide) ?_
            refine xp_ireturn d_N_notedFact_64 rfl rfl ?_
            simp only [if_neg c2, if_neg c14, if_neg s20_0, if_neg s20_1, if_neg s20_2] at hp
            exact hp
    · skip
      refine xp_iconst (v := -1) d_N_notedFact_17 (by decide) ?_
      refine xp_ireturn d_N_notedFact_18 rfl rfl ?_
      simp only [if_neg c2, if_pos c14] at hp
      exact hp
  · skip
    refine xp_aload_n d_N_notedFact_5 rfl ?_
    refine xq_getI d_N_notedFact_6 fg_N_144 (by assumption) ?_
    refine xp_ireturn d_N_notedFact_9 rfl rfl ?_
    simp only [if_pos c2] at hp
    exact hp
set_option maxRecDepth 100000 in
set_option maxHeartbeats 4000000 in
theorem c_N_enqueue (hn : x_node z P nd) {r q : Nat} (hr : x_at 2 z r) (hq : I nd 11 = nI q) (hq4 : q < 4) (hp : post none (z, x_up I nd 11 (I nd 11 + 1), x_upP P (nd + 5) q (some r))) : xp G M_N_enqueue 0 [(0, .ref nd), (1, .ref r)] [] (z, I, P) 0 0 post := by
  obtain ⟨⟨tN, tO, tna, tfl, tL, tq, ts⟩, hs3, ⟨p1, p2, p3, p4, p5, p6⟩, hss⟩ := id hn
  refine xp_aload_n d_N_enqueue_0 rfl ?_
  refine xq_getI d_N_enqueue_1 fg_N_67 (by assumption) ?_
  refine xp_iconst (v := 4) d_N_enqueue_4 (by decide) ?_
  refine xp_icmp_ge (tgt := 28) d_N_enqueue_5 (by decide) (fun c5 => absurd c5 (by rw [hq]; exact nI_ge (b := 4) hq4 (by decide))) (fun c5 => ?_)
  refine xp_aload_n d_N_enqueue_8 rfl ?_
  refine xq_getR d_N_enqueue_9 fg_N_27 (by assumption) (by assumption) ?_
  refine xp_aload_n d_N_enqueue_12 rfl ?_
  refine xq_getI d_N_enqueue_13 fg_N_67 (by assumption) ?_
  refine xp_aload_n d_N_enqueue_16 rfl ?_
  refine xq_aastore d_N_enqueue_17 (by assumption) (by decide) hq (by omega) (by decide) hr (by decide) rfl ?_
  refine xp_aload_n d_N_enqueue_18 rfl ?_
  refine xp_dup d_N_enqueue_19 rfl ?_
  refine xq_getI d_N_enqueue_20 fg_N_67 (by assumption) ?_
  refine xp_iconst (v := 1) d_N_enqueue_23 (by decide) ?_
  refine xp_iadd d_N_enqueue_24 ?_
  refine xq_putI d_N_enqueue_25 f_N_67 (by assumption) ?_
  refine xp_return_ d_N_enqueue_28 rfl ?_
  exact hp
set_option maxRecDepth 100000 in
set_option maxHeartbeats 4000000 in
theorem c_N_runLoop (hn : x_node z P nd)  (hp : post none (z, k_run I nd, P)) : xp G M_N_runLoop 0 [(0, .ref nd)] [] (z, I, P) 0 0 post := by
  obtain ⟨⟨tN, tO, tna, tfl, tL, tq, ts⟩, hs3, ⟨p1, p2, p3, p4, p5, p6⟩, hss⟩ := id hn
  unfold k_run at hp
  refine xp_aload_n d_N_runLoop_0 rfl ?_
  refine xq_getR d_N_runLoop_1 fg_N_21 (by assumption) (by assumption) ?_
  refine xq_V0r d_N_runLoop_4 g_N_runLoop_147 (by assumption) rfl rfl ?_
  refine c_L_isOff tL ?_
  refine ⟨_, rfl, ?_⟩
  refine xp_if_ne (tgt := 31) d_N_runLoop_7 (by decide) (fun c7 => ?_) (fun c7 => ?_)
  · skip
    refine xp_return_ d_N_runLoop_31 rfl ?_
    simp only [if_neg c7] at hp
    exact hp
  · skip
    refine xp_aload_n d_N_runLoop_10 rfl ?_
    refine xq_getR d_N_runLoop_11 fg_N_12 (by assumption) (by assumption) ?_
    refine xp_bipush (v := 15) d_N_runLoop_14 (by decide) ?_
    refine xp_aload_n d_N_runLoop_16 rfl ?_
    refine xq_getR d_N_runLoop_17 fg_N_21 (by assumption) (by assumption) ?_
    refine xp_aload_n d_N_runLoop_20 rfl ?_
    refine xq_getI d_N_runLoop_21 fg_N_70 (by assumption) ?_
    refine xq_V1r d_N_runLoop_24 g_N_runLoop_151 (by assumption) rfl rfl ?_
    refine c_L_control tL ?_
    refine ⟨_, rfl, ?_⟩
    refine xq_V2r d_N_runLoop_27 g_N_runLoop_114 (by assumption) rfl rfl ?_
    refine c_O_fill tO tna tfl p2 p3 ?_
    refine ⟨_, rfl, ?_⟩
    refine xp_pop d_N_runLoop_30 rfl ?_
    refine xp_return_ d_N_runLoop_31 rfl ?_
    simp only [if_pos c7] at hp
    exact hp
set_option maxRecDepth 100000 in
set_option maxHeartbeats 4000000 in
theorem c_N_write (hn : x_node z P nd) {r : Nat} (hr : x_at 2 z r) (hp : post (some (.int (k_wrV I r))) (z, k_wrI I nd r, P)) : xp G M_N_write 0 [(0, .ref nd), (1, .ref r)] [] (z, I, P) 0 0 post := by
  obtain ⟨⟨tN, tO, tna, tfl, tL, tq, ts⟩, hs3, ⟨p1, p2, p3, p4, p5, p6⟩, hss⟩ := id hn
  unfold k_wrV k_wrI at hp
  refine xp_aload_n d_N_write_0 rfl ?_
  refine xq_getI d_N_write_1 fg_N_83 (by assumption) ?_
  refine xp_iconst (v := 1) d_N_write_4 (by decide) ?_
  refine xp_icmp_ne (tgt := 24) d_N_write_5 (by decide) (fun c5 => ?_) (fun c5 => ?_)
  · skip
    refine xp_aload_n d_N_write_24 rfl ?_
    refine xq_getI d_N_write_25 fg_N_83 (by assumption) ?_
    refine xp_iconst (v := 2) d_N_write_28 (by decide) ?_
    refine xp_icmp_ne (tgt := 57) d_N_write_29 (by decide) (fun c29 => ?_) (fun c29 => ?_)
    · skip
      refine xp_iconst (v := 0) d_N_write_57 (by decide) ?_
      refine xp_ireturn d_N_write_58 rfl (x_bit (by first | exact Or.inl rfl | exact Or.inr rfl | assumption)).1 ?_
      simp only [if_neg c5, if_neg c29] at hp
      exact hp
    · skip
      refine xp_aload_n d_N_write_32 rfl ?_
      refine xq_getI d_N_write_33 fg_N_103 (by assumption) ?_
      refine xp_if_ne (tgt := 57) d_N_write_36 (by decide) (fun c36 => ?_) (fun c36 => ?_)
      · skip
        refine xp_iconst (v := 0) d_N_write_57 (by decide) ?_
        refine xp_ireturn d_N_write_58 rfl (x_bit (by first | exact Or.inl rfl | exact Or.inr rfl | assumption)).1 ?_
        simp only [if_neg c5, if_pos c29, if_neg c36] at hp
        exact hp
      · skip
        refine xp_aload_n d_N_write_39 rfl ?_
        refine xq_getR d_N_write_40 fg_N_21 (by assumption) (by assumption) ?_
        refine xp_aload_n d_N_write_43 rfl ?_
        refine xq_getI d_N_write_44 fg_N_102 (by assumption) ?_
        refine xq_V1r d_N_write_47 g_N_write_117 (by assumption) rfl rfl ?_
        refine c_L_aim tL ?_
        refine ⟨_, rfl, ?_⟩
        refine xp_if_eq (tgt := 57) d_N_write_50 (by decide) (fun c50 => ?_) (fun c50 => ?_)
        · skip
          refine xp_iconst (v := 0) d_N_write_57 (by decide) ?_
          refine xp_ireturn d_N_write_58 rfl (x_bit (by first | exact Or.inl rfl | exact Or.inr rfl | assumption)).1 ?_
          simp only [if_neg c5, if_pos c29, if_pos c36, if_pos c50] at hp
          exact hp
        · skip
          refine xp_iconst (v := 1) d_N_write_53 (by decide) ?_
          refine xp_goto (tgt := 58) d_N_write_54 (by decide) ?_
          refine xp_ireturn d_N_write_58 rfl (x_bit (by first | exact Or.inl rfl | exact Or.inr rfl | assumption)).1 ?_
          simp only [if_neg c5, if_pos c29, if_pos c36, if_neg c50] at hp
          exact hp
  · skip
    refine xp_aload_n d_N_write_8 rfl ?_
    refine xq_getR d_N_write_9 fg_N_12 (by assumption) (by assumption) ?_
    refine xp_aload_n d_N_write_12 rfl ?_
    refine xq_getI d_N_write_13 fg_N_103 (by assumption) ?_
    refine xp_aload_n d_N_write_16 rfl ?_
    refine xq_getI d_N_write_17 fg_N_102 (by assumption) ?_
    refine xq_V2r d_N_write_20 g_N_write_114 (by assumption) rfl rfl ?_
    refine c_O_fill tO tna tfl p2 p3 ?_
    refine ⟨_, rfl, ?_⟩
    have h01 := k_within_01 (I r 4) 1 16
    refine xp_ireturn d_N_write_23 rfl (x_bit (by first | exact Or.inl rfl | exact Or.inr rfl | assumption)).1 ?_
    simp only [if_pos c5] at hp
    exact hp
set_option maxRecDepth 100000 in
set_option maxHeartbeats 4000000 in
theorem l_N_dequeue_19 (hn : x_node z P nd) {q : Nat} (hq : I nd 11 = nI q) (hq4 : q < 4) (hqs : ∀ k, k ≤ q → ∃ r, P (nd + 5) k = some r ∧ x_at 2 z r) (hp : post none (z, I, k_deq P (nd + 5) q)) : ∀ n k : Nat, n + k = q → xp G M_N_dequeue 19 [(0, .ref nd), (1, .int (nI k))] [] (z, I, k_deq P (nd + 5) k) 0 0 post := by
  obtain ⟨⟨tN, tO, tna, tfl, tL, tq, ts⟩, hs3, ⟨p1, p2, p3, p4, p5, p6⟩, hss⟩ := id hn
  intro n
  induction n with
  | zero =>
    intro k hk
    have hk : k = q := by omega
    subst hk
    refine xp_iload_n d_N_dequeue_19 rfl ?_
    refine xp_aload_n d_N_dequeue_20 rfl ?_
    refine xq_getI d_N_dequeue_21 fg_N_67 (by assumption) ?_
    refine xp_icmp_ge (tgt := 47) d_N_dequeue_24 (by decide) (fun c24 => ?_) (fun c24 => absurd (show I nd 11 ≤ nI k by rw [hq]; exact nI_le (Nat.le_refl _) (by omega)) c24)
    refine xp_return_ d_N_dequeue_47 rfl ?_
    exact hp
  | succ n ih =>
    intro k hk
    obtain ⟨r, hr1, hr2⟩ := hqs (k + 1) (by omega)
    refine xp_iload_n d_N_dequeue_19 rfl ?_
    refine xp_aload_n d_N_dequeue_20 rfl ?_
    refine xq_getI d_N_dequeue_21 fg_N_67 (by assumption) ?_
    refine xp_icmp_ge (tgt := 47) d_N_dequeue_24 (by decide) (fun c24 => absurd c24 (fun e => by rw [hq] at e; have := (nI_leI (a := q) (b := k) (by omega) (by omega)).mp e; omega)) (fun c24 => ?_)
    refine xp_aload_n d_N_dequeue_27 rfl ?_
    refine xq_getR d_N_dequeue_28 fg_N_27 (by assumption) (by rw [k_deq_ne (by omega)]; exact p5) ?_
    refine xp_iload_n d_N_dequeue_31 rfl ?_
    refine xp_aload_n d_N_dequeue_32 rfl ?_
    refine xq_getR d_N_dequeue_33 fg_N_27 (by assumption) (by rw [k_deq_ne (by omega)]; exact p5) ?_
    refine xp_iload_n d_N_dequeue_36 rfl ?_
    refine xp_iconst (v := 1) d_N_dequeue_37 (by decide) ?_
    refine xp_iadd d_N_dequeue_38 ?_
    refine xq_aaload d_N_dequeue_39 (by assumption) (by decide) (nI_succ k).symm (by omega) (by decide) (by rw [k_deq_ge k (k + 1) (by omega)]; exact hr1) ?_
    refine xq_aastore d_N_dequeue_40 (by assumption) (by decide) rfl (by omega) (by decide) hr2 (by decide) rfl ?_
    refine xp_inc1 d_N_dequeue_41 rfl (by decide) ?_
    refine xp_goto (tgt := 19) d_N_dequeue_44 (by decide) ?_
    refine xp_loc (lv' := [(0, .ref nd), (1, .int (nI (k + 1)))]) ⟨rfl, rfl, trivial⟩ ?_
    have hh := ih (k + 1) (by omega)
    rw [show k_deq P (nd + 5) (k + 1) = x_upP (k_deq P (nd + 5) k) (nd + 5) k (some r) by rw [← hr1]; rfl] at hh
    exact hh
set_option maxRecDepth 100000 in
set_option maxHeartbeats 4000000 in
theorem c_N_dequeue (hn : x_node z P nd) {q : Nat} (hq : I nd 11 = nI (q + 1)) (hq4 : q < 4) (hqs : ∀ k, k ≤ q → ∃ r, P (nd + 5) k = some r ∧ x_at 2 z r) (hp : post none (z, x_up I nd 11 (I nd 11 - 1), k_deq P (nd + 5) q)) : xp G M_N_dequeue 0 [(0, .ref nd)] [] (z, I, P) 0 0 post := by
  obtain ⟨⟨tN, tO, tna, tfl, tL, tq, ts⟩, hs3, ⟨p1, p2, p3, p4, p5, p6⟩, hss⟩ := id hn
  refine xp_aload_n d_N_dequeue_0 rfl ?_
  refine xq_getI d_N_dequeue_1 fg_N_67 (by assumption) ?_
  refine xp_if_le (tgt := 47) d_N_dequeue_4 (by decide) (fun c4 => absurd c4 (by rw [hq]; exact nI_nle (by omega) (by omega))) (fun c4 => ?_)
  refine xp_aload_n d_N_dequeue_7 rfl ?_
  refine xp_dup d_N_dequeue_8 rfl ?_
  refine xq_getI d_N_dequeue_9 fg_N_67 (by assumption) ?_
  refine xp_iconst (v := 1) d_N_dequeue_12 (by decide) ?_
  refine xp_isub d_N_dequeue_13 ?_
  refine xq_putI d_N_dequeue_14 f_N_67 (by assumption) ?_
  refine xp_iconst (v := 0) d_N_dequeue_17 (by decide) ?_
  refine xp_istore_n d_N_dequeue_18 (by decide) ?_
  refine xp_loc (lv' := [(0, .ref nd), (1, .int (nI 0))]) ⟨rfl, rfl, trivial⟩ ?_
  exact l_N_dequeue_19 hn (by rw [x_up_eq ⟨rfl, rfl⟩, hq, nI_pred]) hq4 hqs hp q 0 rfl
set_option maxRecDepth 100000 in
set_option maxHeartbeats 4000000 in
theorem l_N_subscribe_9 (hn : x_node z P nd) {m : Nat} {who ob now : Int32} (hm : I nd 12 = nI m) (hm3 : m ≤ 3) : ∀ n k : Nat, n + k = m → (∀ k1, k_srch (fun k => decide (I (nd + 7 + k) 0 = who ∧ I (nd + 7 + k) 1 = ob)) n k = some k1 → post (some (.int 1)) (z, k_renew I (nd + 7 + k1) now, P)) → (k_srch (fun k => decide (I (nd + 7 + k) 0 = who ∧ I (nd + 7 + k) 1 = ob)) n k = none → m < 3 → post (some (.int 1)) (z, x_up (k_begin I (nd + 7 + m) who ob now) nd 12 (k_begin I (nd + 7 + m) who ob now nd 12 + 1), P)) → (k_srch (fun k => decide (I (nd + 7 + k) 0 = who ∧ I (nd + 7 + k) 1 = ob)) n k = none → ¬ m < 3 → post (some (.int 0)) (z, I, P)) → xp G M_N_subscribe 9 [(0, .ref nd), (1, .int who), (2, .int ob), (3, .int now), (4, .int (nI k))] [] (z, I, P) 0 0 post := by
  obtain ⟨⟨tN, tO, tna, tfl, tL, tq, ts⟩, hs3, ⟨p1, p2, p3, p4, p5, p6⟩, hss⟩ := id hn
  intro n
  induction n with
  | zero =>
    intro k hk h1 h2 h3
    refine xp_iload d_N_subscribe_9 rfl ?_
    refine xp_aload_n d_N_subscribe_11 rfl ?_
    refine xq_getI d_N_subscribe_12 fg_N_61 (by assumption) ?_
    refine xp_icmp_ge (tgt := 65) d_N_subscribe_15 (by decide) (fun c15 => ?_) (fun c15 => absurd (show I nd 12 ≤ nI k by rw [hm]; exact nI_le (by omega) (by omega)) c15)
    refine xp_aload_n d_N_subscribe_65 rfl ?_
    refine xq_getI d_N_subscribe_66 fg_N_61 (by assumption) ?_
    refine xp_iconst (v := 3) d_N_subscribe_69 (by decide) ?_
    refine xp_icmp_lt (tgt := 75) d_N_subscribe_70 (by decide) (fun c70 => ?_) (fun c70 => ?_)
    · skip
      have hm4 : m < 3 := by have q := c70; rw [hm] at q; exact (nI_ltI (a := m) (b := 3) (by omega) (by decide)).mp q
      refine xp_aload_n d_N_subscribe_75 rfl ?_
      refine xq_getR d_N_subscribe_76 fg_N_33 (by assumption) (by assumption) ?_
      refine xp_aload_n d_N_subscribe_79 rfl ?_
      refine xq_getI d_N_subscribe_80 fg_N_61 (by assumption) ?_
      refine xq_aaload d_N_subscribe_83 (by assumption) (by decide) hm (by omega) (by decide) (hss m (by omega)) ?_
      refine xp_iload_n d_N_subscribe_84 rfl ?_
      refine xp_iload_n d_N_subscribe_85 rfl ?_
      refine xp_iload_n d_N_subscribe_86 rfl ?_
      refine xq_V3v d_N_subscribe_87 g_N_subscribe_128 (hs3 m (by omega)) rfl rfl ?_
      refine c_S_begin (hs3 m (by omega)) ?_
      refine ⟨rfl, ?_⟩
      refine xp_aload_n d_N_subscribe_90 rfl ?_
      refine xp_dup d_N_subscribe_91 rfl ?_
      refine xq_getI d_N_subscribe_92 fg_N_61 (by assumption) ?_
      refine xp_iconst (v := 1) d_N_subscribe_95 (by decide) ?_
      refine xp_iadd d_N_subscribe_96 ?_
      refine xq_putI d_N_subscribe_97 f_N_61 (by assumption) ?_
      refine xp_iconst (v := 1) d_N_subscribe_100 (by decide) ?_
      refine xp_ireturn d_N_subscribe_101 rfl (x_bit (by first | exact Or.inl rfl | exact Or.inr rfl | assumption)).1 ?_
      exact h2 rfl (by omega)
    · skip
      refine xp_iconst (v := 0) d_N_subscribe_73 (by decide) ?_
      refine xp_ireturn d_N_subscribe_74 rfl (x_bit (by first | exact Or.inl rfl | exact Or.inr rfl | assumption)).1 ?_
      refine h3 rfl (fun e => c70 (by rw [hm]; exact nI_lt (b := 3) e (by decide)))
  | succ n ih =>
    intro k hk h1 h2 h3
    refine xp_iload d_N_subscribe_9 rfl ?_
    refine xp_aload_n d_N_subscribe_11 rfl ?_
    refine xq_getI d_N_subscribe_12 fg_N_61 (by assumption) ?_
    refine xp_icmp_ge (tgt := 65) d_N_subscribe_15 (by decide) (fun c15 => absurd c15 (fun e => by rw [hm] at e; have := (nI_leI (a := m) (b := k) (by omega) (by omega)).mp e; omega)) (fun c15 => ?_)
    refine xp_aload_n d_N_subscribe_18 rfl ?_
    refine xq_getR d_N_subscribe_19 fg_N_33 (by assumption) (by assumption) ?_
    refine xp_iload d_N_subscribe_22 rfl ?_
    refine xq_aaload d_N_subscribe_24 (by assumption) (by decide) rfl (by omega) (by decide) (hss k (by omega)) ?_
    refine xq_getI d_N_subscribe_25 fg_N_120 (hs3 k (by omega)) ?_
    refine xp_iload_n d_N_subscribe_28 rfl ?_
    refine xp_icmp_ne (tgt := 59) d_N_subscribe_29 (by decide) (fun c29 => ?_) (fun c29 => ?_)
    · skip
      refine xp_inc1 d_N_subscribe_59 rfl (by decide) ?_
      refine xp_goto (tgt := 9) d_N_subscribe_62 (by decide) ?_
      refine xp_loc (lv' := [(0, .ref nd), (1, .int who), (2, .int ob), (3, .int now), (4, .int (nI (k + 1)))]) ⟨rfl, rfl, rfl, rfl, rfl, trivial⟩ ?_
      have hne : ¬ decide (I (nd + 7 + k) 0 = who ∧ I (nd + 7 + k) 1 = ob) = true := fun e => by obtain ⟨e1, e2⟩ := of_decide_eq_true e; first | exact c29 e1 | exact c43 e2
      unfold k_srch at h1 h2 h3
      rw [if_neg hne] at h1 h2 h3
      exact ih (k + 1) (by omega) h1 h2 h3
    · skip
      refine xp_aload_n d_N_subscribe_32 rfl ?_
      refine xq_getR d_N_subscribe_33 fg_N_33 (by assumption) (by assumption) ?_
      refine xp_iload d_N_subscribe_36 rfl ?_
      refine xq_aaload d_N_subscribe_38 (by assumption) (by decide) rfl (by omega) (by decide) (hss k (by omega)) ?_
      refine xq_getI d_N_subscribe_39 fg_N_123 (hs3 k (by omega)) ?_
      refine xp_iload_n d_N_subscribe_42 rfl ?_
      refine xp_icmp_ne (tgt := 59) d_N_subscribe_43 (by decide) (fun c43 => ?_) (fun c43 => ?_)
      · skip
        refine xp_inc1 d_N_subscribe_59 rfl (by decide) ?_
        refine xp_goto (tgt := 9) d_N_subscribe_62 (by decide) ?_
        refine xp_loc (lv' := [(0, .ref nd), (1, .int who), (2, .int ob), (3, .int now), (4, .int (nI (k + 1)))]) ⟨rfl, rfl, rfl, rfl, rfl, trivial⟩ ?_
        have hne : ¬ decide (I (nd + 7 + k) 0 = who ∧ I (nd + 7 + k) 1 = ob) = true := fun e => by obtain ⟨e1, e2⟩ := of_decide_eq_true e; first | exact c29 e1 | exact c43 e2
        unfold k_srch at h1 h2 h3
        rw [if_neg hne] at h1 h2 h3
        exact ih (k + 1) (by omega) h1 h2 h3
      · skip
        refine xp_aload_n d_N_subscribe_46 rfl ?_
        refine xq_getR d_N_subscribe_47 fg_N_33 (by assumption) (by assumption) ?_
        refine xp_iload d_N_subscribe_50 rfl ?_
        refine xq_aaload d_N_subscribe_52 (by assumption) (by decide) rfl (by omega) (by decide) (hss k (by omega)) ?_
        refine xp_iload_n d_N_subscribe_53 rfl ?_
        refine xq_V1v d_N_subscribe_54 g_N_subscribe_124 (hs3 k (by omega)) rfl rfl ?_
        refine c_S_renew (hs3 k (by omega)) ?_
        refine ⟨rfl, ?_⟩
        refine xp_iconst (v := 1) d_N_subscribe_57 (by decide) ?_
        refine xp_ireturn d_N_subscribe_58 rfl (x_bit (by first | exact Or.inl rfl | exact Or.inr rfl | assumption)).1 ?_
        exact h1 k (if_pos (decide_eq_true ⟨c29, c43⟩))
set_option maxRecDepth 100000 in
set_option maxHeartbeats 4000000 in
theorem c_N_subscribe (hn : x_node z P nd) {m : Nat} {who ob : Int32} (hm : I nd 12 = nI m) (hm3 : m ≤ 3) (hp : post (some (.int (k_sbV I nd who ob m))) (z, k_sbI I nd who ob m, P)) : xp G M_N_subscribe 0 [(0, .ref nd), (1, .int who), (2, .int ob)] [] (z, I, P) 0 0 post := by
  obtain ⟨⟨tN, tO, tna, tfl, tL, tq, ts⟩, hs3, ⟨p1, p2, p3, p4, p5, p6⟩, hss⟩ := id hn
  refine xp_aload_n d_N_subscribe_0 rfl ?_
  refine xp_iload_n d_N_subscribe_1 rfl ?_
  refine xq_V1r d_N_subscribe_2 g_N_subscribe_90 (by assumption) rfl rfl ?_
  refine c_N_objectValue hn ?_
  refine ⟨_, rfl, ?_⟩
  refine xp_istore_n d_N_subscribe_5 (by decide) ?_
  refine xp_iconst (v := 0) d_N_subscribe_6 (by decide) ?_
  refine xp_istore d_N_subscribe_7 (by decide) ?_
  refine xp_loc (lv' := [(0, .ref nd), (1, .int who), (2, .int ob), (3, .int (k_ov I nd ob)), (4, .int (nI 0))]) ⟨rfl, rfl, rfl, rfl, rfl, trivial⟩ ?_
  refine l_N_subscribe_9 hn hm hm3 m 0 rfl (fun k1 e => ?_) (fun e h => ?_) (fun e h => ?_)
  · unfold k_sbV k_sbI at hp
    rw [e] at hp
    exact hp
  · unfold k_sbV k_sbI at hp
    rw [e] at hp
    simp only [if_pos h] at hp
    exact hp
  · unfold k_sbV k_sbI at hp
    rw [e] at hp
    simp only [if_neg h] at hp
    exact hp
set_option maxRecDepth 100000 in
set_option maxHeartbeats 4000000 in
theorem l_N_firstDue_2 (hn : x_node z P nd) {m : Nat} (hm : I nd 12 = nI m) (hm3 : m ≤ 3) : ∀ n k : Nat, n + k = m → (∀ k1, k_srch (fun k => !decide (I (nd + 7 + k) 3 = 0)) n k = some k1 → post (some (.ref (nd + 7 + k1))) (z, I, P)) → (k_srch (fun k => !decide (I (nd + 7 + k) 3 = 0)) n k = none → post (some .null) (z, I, P)) → xp G M_N_firstDue 2 [(0, .ref nd), (1, .int (nI k))] [] (z, I, P) 0 0 post := by
  obtain ⟨⟨tN, tO, tna, tfl, tL, tq, ts⟩, hs3, ⟨p1, p2, p3, p4, p5, p6⟩, hss⟩ := id hn
  intro n
  induction n with
  | zero =>
    intro k hk h1 h2
    refine xp_iload_n d_N_firstDue_2 rfl ?_
    refine xp_aload_n d_N_firstDue_3 rfl ?_
    refine xq_getI d_N_firstDue_4 fg_N_61 (by assumption) ?_
    refine xp_icmp_ge (tgt := 35) d_N_firstDue_7 (by decide) (fun c7 => ?_) (fun c7 => absurd (show I nd 12 ≤ nI k by rw [hm]; exact nI_le (by omega) (by omega)) c7)
    refine xp_aconst_null d_N_firstDue_35 ?_
    refine xp_areturnN d_N_firstDue_36 rfl ?_
    exact h2 rfl
  | succ n ih =>
    intro k hk h1 h2
    refine xp_iload_n d_N_firstDue_2 rfl ?_
    refine xp_aload_n d_N_firstDue_3 rfl ?_
    refine xq_getI d_N_firstDue_4 fg_N_61 (by assumption) ?_
    refine xp_icmp_ge (tgt := 35) d_N_firstDue_7 (by decide) (fun c7 => absurd c7 (fun e => by rw [hm] at e; have := (nI_leI (a := m) (b := k) (by omega) (by omega)).mp e; omega)) (fun c7 => ?_)
    refine xp_aload_n d_N_firstDue_10 rfl ?_
    refine xq_getR d_N_firstDue_11 fg_N_33 (by assumption) (by assumption) ?_
    refine xp_iload_n d_N_firstDue_14 rfl ?_
    refine xq_aaload d_N_firstDue_15 (by assumption) (by decide) rfl (by omega) (by decide) (hss k (by omega)) ?_
    refine xq_getI d_N_firstDue_16 fg_N_132 (hs3 k (by omega)) ?_
    refine xp_if_eq (tgt := 29) d_N_firstDue_19 (by decide) (fun c19 => ?_) (fun c19 => ?_)
    · skip
      refine xp_inc1 d_N_firstDue_29 rfl (by decide) ?_
      refine xp_goto (tgt := 2) d_N_firstDue_32 (by decide) ?_
      refine xp_loc (lv' := [(0, .ref nd), (1, .int (nI (k + 1)))]) ⟨rfl, rfl, trivial⟩ ?_
      have hne : ¬ (!decide (I (nd + 7 + k) 3 = 0)) = true := by rw [decide_eq_true c19]; decide
      unfold k_srch at h1 h2
      rw [if_neg hne] at h1 h2
      exact ih (k + 1) (by omega) h1 h2
    · skip
      refine xp_aload_n d_N_firstDue_22 rfl ?_
      refine xq_getR d_N_firstDue_23 fg_N_33 (by assumption) (by assumption) ?_
      refine xp_iload_n d_N_firstDue_26 rfl ?_
      refine xq_aaload d_N_firstDue_27 (by assumption) (by decide) rfl (by omega) (by decide) (hss k (by omega)) ?_
      refine xp_areturn d_N_firstDue_28 rfl ?_
      exact h1 k (if_pos (by show (!decide (I (nd + 7 + k) 3 = 0)) = true; rw [decide_eq_false c19]; rfl))
set_option maxRecDepth 100000 in
set_option maxHeartbeats 4000000 in
theorem c_N_firstDue (hn : x_node z P nd) {m : Nat} (hm : I nd 12 = nI m) (hm3 : m ≤ 3) (h1 : ∀ k1, k_srch (fun k => !decide (I (nd + 7 + k) 3 = 0)) m 0 = some k1 → post (some (.ref (nd + 7 + k1))) (z, I, P)) (h2 : k_srch (fun k => !decide (I (nd + 7 + k) 3 = 0)) m 0 = none → post (some .null) (z, I, P)) : xp G M_N_firstDue 0 [(0, .ref nd)] [] (z, I, P) 0 0 post := by
  refine xp_iconst (v := 0) d_N_firstDue_0 (by decide) ?_
  refine xp_istore_n d_N_firstDue_1 (by decide) ?_
  refine xp_loc (lv' := [(0, .ref nd), (1, .int (nI 0))]) ⟨rfl, rfl, trivial⟩ ?_
  exact l_N_firstDue_2 hn hm hm3 m 0 rfl h1 h2
set_option maxRecDepth 100000 in
set_option maxHeartbeats 4000000 in
theorem l_N_findDue_2 (hn : x_node z P nd) {m : Nat} (hm : I nd 12 = nI m) (hm3 : m ≤ 3) (hp : post none (z, k_fd I nd m, P)) : ∀ n k : Nat, n + k = m → xp G M_N_findDue 2 [(0, .ref nd), (1, .int (nI k))] [] (z, k_fd I nd k, P) 0 0 post := by
  obtain ⟨⟨tN, tO, tna, tfl, tL, tq, ts⟩, hs3, ⟨p1, p2, p3, p4, p5, p6⟩, hss⟩ := id hn
  intro n
  induction n with
  | zero =>
    intro k hk
    have hk : k = m := by omega
    subst hk
    refine xp_iload_n d_N_findDue_2 rfl ?_
    refine xp_aload_n d_N_findDue_3 rfl ?_
    refine xq_getI d_N_findDue_4 fg_N_61 (by assumption) ?_
    refine xp_icmp_ge (tgt := 38) d_N_findDue_7 (by decide) (fun c7 => ?_) (fun c7 => absurd (show k_fd I nd k nd 12 ≤ nI k by rw [k_fd_row (by omega) k, hm]; exact nI_le (by omega) (by omega)) c7)
    refine xp_return_ d_N_findDue_38 rfl ?_
    exact hp
  | succ n ih =>
    intro k hk
    refine xp_iload_n d_N_findDue_2 rfl ?_
    refine xp_aload_n d_N_findDue_3 rfl ?_
    refine xq_getI d_N_findDue_4 fg_N_61 (by assumption) ?_
    refine xp_icmp_ge (tgt := 38) d_N_findDue_7 (by decide) (fun c7 => absurd c7 (fun e => by rw [k_fd_row (by omega) k, hm] at e; have := (nI_leI (a := m) (b := k) (by omega) (by omega)).mp e; omega)) (fun c7 => ?_)
    refine xp_aload_n d_N_findDue_10 rfl ?_
    refine xq_getR d_N_findDue_11 fg_N_33 (by assumption) (by assumption) ?_
    refine xp_iload_n d_N_findDue_14 rfl ?_
    refine xq_aaload d_N_findDue_15 (by assumption) (by decide) rfl (by omega) (by decide) (hss k (by omega)) ?_
    refine xp_aload_n d_N_findDue_16 rfl ?_
    refine xp_aload_n d_N_findDue_17 rfl ?_
    refine xq_getR d_N_findDue_18 fg_N_33 (by assumption) (by assumption) ?_
    refine xp_iload_n d_N_findDue_21 rfl ?_
    refine xq_aaload d_N_findDue_22 (by assumption) (by decide) rfl (by omega) (by decide) (hss k (by omega)) ?_
    refine xq_getI d_N_findDue_23 fg_N_123 (hs3 k (by omega)) ?_
    refine xq_V1r d_N_findDue_26 g_N_findDue_90 (by assumption) rfl rfl ?_
    refine c_N_objectValue hn ?_
    refine ⟨_, rfl, ?_⟩
    refine xq_V1v d_N_findDue_29 g_N_findDue_154 (hs3 k (by omega)) rfl rfl ?_
    refine c_S_compare (hs3 k (by omega)) ?_
    refine ⟨rfl, ?_⟩
    refine xp_inc1 d_N_findDue_32 rfl (by decide) ?_
    refine xp_goto (tgt := 2) d_N_findDue_35 (by decide) ?_
    refine xp_loc (lv' := [(0, .ref nd), (1, .int (nI (k + 1)))]) ⟨rfl, rfl, trivial⟩ ?_
    exact ih (k + 1) (by omega)
set_option maxRecDepth 100000 in
set_option maxHeartbeats 4000000 in
theorem c_N_findDue (hn : x_node z P nd) {m : Nat} (hm : I nd 12 = nI m) (hm3 : m ≤ 3) (hp : post none (z, k_fd I nd m, P)) : xp G M_N_findDue 0 [(0, .ref nd)] [] (z, I, P) 0 0 post := by
  obtain ⟨⟨tN, tO, tna, tfl, tL, tq, ts⟩, hs3, ⟨p1, p2, p3, p4, p5, p6⟩, hss⟩ := id hn
  refine xp_iconst (v := 0) d_N_findDue_0 (by decide) ?_
  refine xp_istore_n d_N_findDue_1 (by decide) ?_
  refine xp_loc (lv' := [(0, .ref nd), (1, .int (nI 0))]) ⟨rfl, rfl, trivial⟩ ?_
  exact l_N_findDue_2 hn hm hm3 hp m 0 rfl
set_option maxRecDepth 100000 in
set_option maxHeartbeats 4000000 in
theorem c_N_carryOut (hn : x_node z P nd) {r m : Nat} {who : Int32} (hr : x_at 2 z r) (hm : I nd 12 = nI m) (hm3 : m ≤ 3) (hp : post none (z, k_settle (k_coI I nd r who m) r (k_coV I nd r who m) (k_coA I nd r who m), P)) : xp G M_N_carryOut 0 [(0, .ref nd), (1, .ref r), (2, .int who)] [] (z, I, P) 0 0 post := by
  obtain ⟨⟨tN, tO, tna, tfl, tL, tq, ts⟩, hs3, ⟨p1, p2, p3, p4, p5, p6⟩, hss⟩ := id hn
  unfold k_coI k_coV k_coA at hp
  refine xp_aload_n d_N_carryOut_0 rfl ?_
  refine xq_getI d_N_carryOut_1 fg_N_80 (by assumption) ?_
  refine xp_sw1 1 (tgt := 36) (off := 32) d_N_carryOut_4 (by decide) (by decide) (by decide) (fun s4_1 => ?_) (fun s4_1 => ?_)
  · skip
    refine xp_aload_n d_N_carryOut_36 rfl ?_
    refine xp_aload_n d_N_carryOut_37 rfl ?_
    refine xq_getI d_N_carryOut_38 fg_N_83 (by assumption) ?_
    refine xp_iconst (v := 0) d_N_carryOut_41 (by decide) ?_
    refine xp_iconst (v := 2) d_N_carryOut_42 (by decide) ?_
    refine xq_N3r d_N_carryOut_43 g_N_carryOut_86 rfl rfl ?_
    refine c_B_isWithin ?_
    refine ⟨_, rfl, ?_⟩
    refine xp_aload_n d_N_carryOut_46 rfl ?_
    refine xp_aload_n d_N_carryOut_47 rfl ?_
    refine xq_getI d_N_carryOut_48 fg_N_83 (by assumption) ?_
    refine xq_V1r d_N_carryOut_51 g_N_carryOut_90 (by assumption) rfl rfl ?_
    refine c_N_objectValue hn ?_
    refine ⟨_, rfl, ?_⟩
    refine xq_V2v d_N_carryOut_54 g_N_carryOut_94 (by assumption) rfl rfl ?_
    refine c_R_settle hr (by first | exact Or.inl rfl | exact Or.inr rfl | exact k_within_01 _ _ _ | exact k_wrV_01 _ _) ?_
    refine ⟨rfl, ?_⟩
    refine xp_goto (tgt := 160) d_N_carryOut_57 (by decide) ?_
    refine xp_return_ d_N_carryOut_160 rfl ?_
    simp only [if_pos s4_1] at hp
    exact hp
  · skip
    refine xp_sw1 2 (tgt := 60) (off := 56) d_N_carryOut_4 (by decide) (by decide) (by decide) (fun s4_2 => ?_) (fun s4_2 => ?_)
    · skip
      refine xp_aload_n d_N_carryOut_60 rfl ?_
      refine xp_aload_n d_N_carryOut_61 rfl ?_
      refine xp_aload_n d_N_carryOut_62 rfl ?_
      refine xq_V1r d_N_carryOut_63 g_N_carryOut_98 (by assumption) rfl rfl ?_
      refine c_N_write hn hr ?_
      refine ⟨_, rfl, ?_⟩
      refine xp_aload_n d_N_carryOut_66 rfl ?_
      refine xq_getI d_N_carryOut_67 fg_N_102 (by assumption) ?_
      refine xq_V2v d_N_carryOut_70 g_N_carryOut_94 (by assumption) rfl rfl ?_
      refine c_R_settle hr (by first | exact Or.inl rfl | exact Or.inr rfl | exact k_within_01 _ _ _ | exact k_wrV_01 _ _) ?_
      refine ⟨rfl, ?_⟩
      refine xp_goto (tgt := 160) d_N_carryOut_73 (by decide) ?_
      refine xp_return_ d_N_carryOut_160 rfl ?_
      simp only [if_neg s4_1, if_pos s4_2] at hp
      exact hp
    · skip
      refine xp_sw1 3 (tgt := 76) (off := 72) d_N_carryOut_4 (by decide) (by decide) (by decide) (fun s4_3 => ?_) (fun s4_3 => ?_)
      · skip
        refine xp_aload_n d_N_carryOut_76 rfl ?_
        refine xp_aload_n d_N_carryOut_77 rfl ?_
        refine xq_getI d_N_carryOut_78 fg_N_83 (by assumption) ?_
        refine xp_iconst (v := 1) d_N_carryOut_81 (by decide) ?_
        refine xp_icmp_ne (tgt := 103) d_N_carryOut_82 (by decide) (fun c82 => ?_) (fun c82 => ?_)
        · skip
          refine xp_iconst (v := 0) d_N_carryOut_103 (by decide) ?_
          refine xp_aload_n d_N_carryOut_104 rfl ?_
          refine xq_getI d_N_carryOut_105 fg_N_102 (by assumption) ?_
          refine xq_V2v d_N_carryOut_108 g_N_carryOut_94 (by assumption) rfl rfl ?_
          refine c_R_settle hr (by first | exact Or.inl rfl | exact Or.inr rfl | exact k_within_01 _ _ _ | exact k_wrV_01 _ _) ?_
          refine ⟨rfl, ?_⟩
          refine xp_goto (tgt := 160) d_N_carryOut_111 (by decide) ?_
          refine xp_return_ d_N_carryOut_160 rfl ?_
          simp only [if_neg s4_1, if_neg s4_2, if_pos s4_3, if_neg c82] at hp
          exact hp
        · skip
          refine xp_aload_n d_N_carryOut_85 rfl ?_
          refine xq_getR d_N_carryOut_86 fg_N_12 (by assumption) (by assumption) ?_
          refine xp_aload_n d_N_carryOut_89 rfl ?_
          refine xq_getI d_N_carryOut_90 fg_N_103 (by assumption) ?_
          refine xq_V1r d_N_carryOut_93 g_N_carryOut_106 (by assumption) rfl rfl ?_
          refine c_O_release tO tna tfl p2 p3 ?_
          refine ⟨_, rfl, ?_⟩
          refine xp_if_eq (tgt := 103) d_N_carryOut_96 (by decide) (fun c96 => ?_) (fun c96 => ?_)
          · skip
            refine xp_iconst (v := 0) d_N_carryOut_103 (by decide) ?_
            refine xp_aload_n d_N_carryOut_104 rfl ?_
            refine xq_getI d_N_carryOut_105 fg_N_102 (by assumption) ?_
            refine xq_V2v d_N_carryOut_108 g_N_carryOut_94 (by assumption) rfl rfl ?_
            refine c_R_settle hr (by first | exact Or.inl rfl | exact Or.inr rfl | exact k_within_01 _ _ _ | exact k_wrV_01 _ _) ?_
            refine ⟨rfl, ?_⟩
            refine xp_goto (tgt := 160) d_N_carryOut_111 (by decide) ?_
            refine xp_return_ d_N_carryOut_160 rfl ?_
            simp only [if_neg s4_1, if_neg s4_2, if_pos s4_3, if_pos c82, if_pos c96] at hp
            exact hp
          · skip
            refine xp_iconst (v := 1) d_N_carryOut_99 (by decide) ?_
            refine xp_goto (tgt := 104) d_N_carryOut_100 (by decide) ?_
            refine xp_aload_n d_N_carryOut_104 rfl ?_
            refine xq_getI d_N_carryOut_105 fg_N_102 (by assumption) ?_
            refine xq_V2v d_N_carryOut_108 g_N_carryOut_94 (by assumption) rfl rfl ?_
            refine c_R_settle hr (by first | exact Or.inl rfl | exact Or.inr rfl | exact k_within_01 _ _ _ | exact k_wrV_01 _ _) ?_
            refine ⟨rfl, ?_⟩
            refine xp_goto (tgt := 160) d_N_carryOut_111 (by decide) ?_
            refine xp_return_ d_N_carryOut_160 rfl ?_
            simp only [if_neg s4_1, if_neg s4_2, if_pos s4_3, if_pos c82, if_neg c96] at hp
            exact hp
      · skip
        refine xp_sw1 4 (tgt := 114) (off := 110) d_N_carryOut_4 (by decide) (by decide) (by decide) (fun s4_4 => ?_) (fun s4_4 => ?_)
        · skip
          refine xp_aload_n d_N_carryOut_114 rfl ?_
          refine xp_aload_n d_N_carryOut_115 rfl ?_
          refine xq_getI d_N_carryOut_116 fg_N_83 (by assumption) ?_
          refine xp_iconst (v := 0) d_N_carryOut_119 (by decide) ?_
          refine xp_iconst (v := 1) d_N_carryOut_120 (by decide) ?_
          refine xq_N3r d_N_carryOut_121 g_N_carryOut_86 rfl rfl ?_
          refine c_B_isWithin ?_
          refine ⟨_, rfl, ?_⟩
          refine xp_if_eq (tgt := 143) d_N_carryOut_124 (by decide) (fun c124 => ?_) (fun c124 => ?_)
          · skip
            refine xp_iconst (v := 0) d_N_carryOut_143 (by decide) ?_
            refine xp_aload_n d_N_carryOut_144 rfl ?_
            refine xq_getI d_N_carryOut_145 fg_N_102 (by assumption) ?_
            refine xq_V2v d_N_carryOut_148 g_N_carryOut_94 (by assumption) rfl rfl ?_
            refine c_R_settle hr (by first | exact Or.inl rfl | exact Or.inr rfl | exact k_within_01 _ _ _ | exact k_wrV_01 _ _) ?_
            refine ⟨rfl, ?_⟩
            refine xp_goto (tgt := 160) d_N_carryOut_151 (by decide) ?_
            refine xp_return_ d_N_carryOut_160 rfl ?_
            simp only [if_neg s4_1, if_neg s4_2, if_neg s4_3, if_pos s4_4, if_pos c124] at hp
            exact hp
          · skip
            refine xp_aload_n d_N_carryOut_127 rfl ?_
            refine xp_iload_n d_N_carryOut_128 rfl ?_
            refine xp_aload_n d_N_carryOut_129 rfl ?_
            refine xq_getI d_N_carryOut_130 fg_N_83 (by assumption) ?_
            refine xq_V2r d_N_carryOut_133 g_N_carryOut_110 (by assumption) rfl rfl ?_
            refine c_N_subscribe hn hm hm3 ?_
            refine ⟨_, rfl, ?_⟩
            refine xp_if_eq (tgt := 143) d_N_carryOut_136 (by decide) (fun c136 => ?_) (fun c136 => ?_)
            · skip
              refine xp_iconst (v := 0) d_N_carryOut_143 (by decide) ?_
              refine xp_aload_n d_N_carryOut_144 rfl ?_
              refine xq_getI d_N_carryOut_145 fg_N_102 (by assumption) ?_
              refine xq_V2v d_N_carryOut_148 g_N_carryOut_94 (by assumption) rfl rfl ?_
              refine c_R_settle hr (by first | exact Or.inl rfl | exact Or.inr rfl | exact k_within_01 _ _ _ | exact k_wrV_01 _ _) ?_
              refine ⟨rfl, ?_⟩
              refine xp_goto (tgt := 160) d_N_carryOut_151 (by decide) ?_
              refine xp_return_ d_N_carryOut_160 rfl ?_
              simp only [if_neg s4_1, if_neg s4_2, if_neg s4_3, if_pos s4_4, if_neg c124, if_pos c136] at hp
              exact hp
            · skip
              refine xp_iconst (v := 1) d_N_carryOut_139 (by decide) ?_
              refine xp_goto (tgt := 144) d_N_carryOut_140 (by decide) ?_
              refine xp_aload_n d_N_carryOut_144 rfl ?_
              refine xq_getI d_N_carryOut_145 fg_N_102 (by assumption) ?_
              refine xq_V2v d_N_carryOut_148 g_N_carryOut_94 (by assumption) rfl rfl ?_
              refine c_R_settle hr (by first | exact Or.inl rfl | exact Or.inr rfl | exact k_within_01 _ _ _ | exact k_wrV_01 _ _) ?_
              refine ⟨rfl, ?_⟩
              refine xp_goto (tgt := 160) d_N_carryOut_151 (by decide) ?_
              refine xp_return_ d_N_carryOut_160 rfl ?_
              simp only [if_neg s4_1, if_neg s4_2, if_neg s4_3, if_pos s4_4, if_neg c124, if_neg c136] at hp
              exact hp
        · skip
          have ns4_1 := x_neT s4_1 (show (1 : Int32).toInt = 1 by decide)
          have ns4_2 := x_neT s4_2 (show (2 : Int32).toInt = 2 by decide)
          have ns4_3 := x_neT s4_3 (show (3 : Int32).toInt = 3 by decide)
          have ns4_4 := x_neT s4_4 (show (4 : Int32).toInt = 4 by decide)
          refine xp_tableOut (tgt := 154) d_N_carryOut_4 (by omega) (by decide) ?_
          refine xp_aload_n d_N_carryOut_154 rfl ?_
          refine xp_iconst (v := 0) d_N_carryOut_155 (by decide) ?_
          refine xp_iconst (v := 0) d_N_carryOut_156 (by decide) ?_
          refine xq_V2v d_N_carryOut_157 g_N_carryOut_94 (by assumption) rfl rfl ?_
          refine c_R_settle hr (by first | exact Or.inl rfl | exact Or.inr rfl | exact k_within_01 _ _ _ | exact k_wrV_01 _ _) ?_
          refine ⟨rfl, ?_⟩
          refine xp_return_ d_N_carryOut_160 rfl ?_
          simp only [if_neg s4_1, if_neg s4_2, if_neg s4_3, if_neg s4_4] at hp
          exact hp
end part84
