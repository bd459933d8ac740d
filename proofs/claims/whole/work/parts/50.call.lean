/-! calls: a method's 'xp' from its entry is its contract -/
def x_Qc (G : xG) (post : Option Value → xH → Prop) : Array Value → State → Outcome → State → Prop := fun _ st oc t =>
  (∃ (r : Option Value) (h' : xH), oc = .returned (r.map (x_v G)) ∧ post r h' ∧ va_P (g_D G) vwCl (x_W G h') t.heap ∧ t.heap.size = g_B G + h'.1) ∧ va_F (x_A G) st t
def x_Pre (G : xG) (h : xH) (U : State) : Prop := va_K (g_D G) vwCl (x_tys G) U ∧ va_P (g_D G) vwCl (x_W G h) U.heap ∧ U.heap.size = g_B G + h.1 ∧ va_X (g_b G) (g_L G) (g_x G) U U.heap ∧ x_O U
def x_rm (M : xM) (mc ms : Nat) : Room := { frames := M.2.2.2.2.1, cells := mc, slots := ms, locals := M.2.2.2.2.2 }
theorem x_lg_len (G : xG) (vs : List Value) : (lg_sl (vs.map (x_v G))).length = (lg_sl vs).length := by
  induction vs with
  | nil => rfl
  | cons v r ih =>
    unfold lg_sl at ih ⊢
    rw [List.map_cons, List.flatMap_cons, List.flatMap_cons, List.length_append, List.length_append, ih, x_v_cat]
    by_cases hv : v.category = 2
    · rw [if_pos hv, if_pos hv]
      rfl
    · rw [if_neg hv, if_neg hv]
      rfl
theorem x_lv_args (G : xG) (vs : List Value) : ∀ i : Nat, lv_args i (vs.map (x_v G)) = (lv_args i vs).map (x_q G) := by
  induction vs with
  | nil => intro i; rfl
  | cons v r ih =>
    intro i
    show (i, x_v G v) :: lv_args (if (x_v G v).category = 2 then i + 2 else i + 1) (r.map (x_v G)) = (i, x_v G v) :: (lv_args (if v.category = 2 then i + 2 else i + 1) r).map (x_q G)
    rw [ih, x_v_cat]
theorem x_blind (G : xG) (h : xH) (vs : List Value) : FrameBlind (va_Pc vs (x_Pre G h)) := fun a U g mk q => by
  obtain ⟨q0, qK, qP, qs, qX, qO⟩ := q
  exact ⟨q0, va_K.moved (u := U) (U := U.calling g mk a) (Vm.Alike.refl U.vm) qK, qP, qs, va_X.moved (u := U) (U := U.calling g mk a) (Vm.Alike.refl U.vm) qX, x_O.same (s := U) (U := U.calling g mk a) rfl qO⟩
theorem x_ofW {l : Launch} {y : MethodName} {ws ws' : List Cond} {rm : Room} {Pc : Array Value → State → Prop} {Qc : Array Value → State → Outcome → State → Prop} {mc ms : Nat} {free : Addr → Prop} {cc : ByteArray} {maxL : Nat} {ret : Option FieldType}
    (hy : plainFor y = true) (hw : ws = Cond.code y cc maxL ret :: ws')
    (body : ∀ p e s m args below meth c s₁, BodyLoose p l y (headSpec ws rm) cc maxL ret e s m args below meth c s₁ → c.maxLocals = maxL → Pc args s →
      W p l e (headSpec ws rm).room s m args below meth c s.heap [] 0 0 (MQ below Qc args s mc ms free) (entryFrame m args maxL)) : Met l y ws rm Pc Qc mc ms free := by
  refine MetFree.of_bodySF (code := cc) (maxLocals := maxL) (ret := ret) hy ?_ ?_
  · intro args s m h hn
    obtain ⟨meth, c, h1, h2, h3, h4, h5, h6, -, -⟩ := Cond.code_spec hn (atoms_spec (ws := ws) h _ (by rw [hw]; exact List.mem_cons_self))
    exact ⟨meth, c, h1, h2, h3, h4, h5, h6⟩
  · intro p e s m args below meth c s₁ B hml hP _
    have hh0 : s₁.heap = s.heap := by rw [B.state]; rfl
    obtain ⟨t, a1, o, b1, b2, b3⟩ := body p e s m args below meth c s₁ B hml hP s₁ hh0 (Stand.of_body B)
    exact ⟨t, o, a1, b1, b2, ⟨b3.1, b3.2⟩⟩
theorem xp_met {G : xG} {M : xM} {vs : List Value} {h : xH} {mc ms : Nat} {post : Option Value → xH → Prop} (hpl : plainFor M.1 = true) (hlen : (lg_sl vs).length ≤ M.2.2.1) (hb : g_b G ≤ g_B G) (hz : 1 ≤ h.1) (hw : xp G M 0 (lv_args 0 vs) [] h mc ms post) :
    Met (g_l G) M.1 (Cond.code M.1 M.2.1 M.2.2.1 M.2.2.2.1 :: xGW) (x_rm M mc ms) (va_Pc (vs.map (x_v G)) (x_Pre G h)) (x_Qc G post) mc ms (x_A G) := by
  refine x_ofW (cc := M.2.1) (maxL := M.2.2.1) (ret := M.2.2.2.1) hpl rfl ?_
  intro p e s m args below meth c s₁ B hml hv
  obtain ⟨rfl, hK, hP, hsz, hX, hO⟩ := hv
  have hts := atoms_spec (ws := Cond.code M.1 M.2.1 M.2.2.1 M.2.2.2.1 :: xGW) B.pre
  have hl := lv_entry (vs.map (x_v G)) (n := M.2.2.1) (by rw [x_lg_len]; exact hlen)
  rw [x_lv_args] at hl
  rw [lg_entry_eq]
  have hC : x_C G M p (x_rm M mc ms) s m (vs.map (x_v G)).toArray meth c := ⟨B.exec, B.bytes, hml, B.returns, fun hi => by rw [← hi]; exact (name_of_methodNamed B.named B.method).1, B.notSynchronized, findClass_of_methodNamed B.named,
    fun w hw => hts w (List.mem_cons_of_mem _ hw), hK, hX, hO, ⟨hb, by omega⟩, Nat.le_refl _, Nat.le_refl _⟩
  refine hw p e (x_rm M mc ms) s m _ below meth c s.heap [] 0 0 _ _ hC ⟨hP, va_S.rf, hsz⟩ hl ⟨by show 0 + mc ≤ mc; omega, by show 0 + ms ≤ ms; omega⟩ ?_
  intro r h' H' locs' pc' ls' hp hS hr
  have hq : ∀ t : State, t.heap = H' → s.WarmedH t.vm → x_Qc G post (vs.map (x_v G)).toArray s (.returned (r.map (x_v G))) t := fun t ht _ => ⟨⟨r, h', rfl, hp, by rw [ht]; exact hS.1, by rw [ht]; exact hS.2.2⟩, hS.2.1.F ht⟩
  have hlk := B.notSynchronized
  cases r with
  | none => exact W.vret B.exec B.bytes (B.returns.trans hr.2) hq hS.2.1.2.2 hr.1 hlk
  | some v =>
    cases v with
    | int v =>
      obtain ⟨hd, ty, h1, h2⟩ := hr
      exact W.zret B.exec B.bytes (B.returns.trans h1) h2 hq hS.2.1.2.2 hd hlk
    | long v => exact W.lret B.exec B.bytes (B.returns.trans hr.2) hq hS.2.1.2.2 hr.1 hlk
    | null =>
      obtain ⟨hd, n, h1⟩ := hr
      exact W.aret B.exec B.bytes (B.returns.trans h1) (Or.inl ⟨n, rfl⟩) (Or.inl rfl) hq hS.2.1.2.2 hd hlk
    | ref a =>
      obtain ⟨hd, n, h1⟩ := hr
      exact W.aret B.exec B.bytes (B.returns.trans h1) (Or.inl ⟨n, rfl⟩) (Or.inr ⟨_, rfl⟩) hq hS.2.1.2.2 hd hlk
    | float v => exact hr.elim
    | double v => exact hr.elim
    | retAddr v => exact hr.elim
section xcallW
variable {G : xG} {M M' : xM} {p : Program} {e : Env} {R : Room} {s : State} {m : MethodId} {args : Array Value} {below : List Frame} {meth : Method} {c : Code} {H : Heap} {locs : List Loc} {cells slots mc ms : Nat} {ls : Array Slot} {Q : State → Prop} {pc : Nat} {h : xH} {n idx : Nat}
theorem x_back {st0 rest : List Value} {post' : Option Value → xH → Prop} {a : Array Value} (hr : va_Run p (g_l G) e R s m args below meth c H locs cells slots mc ms (F0 m pc ls st0) rest (x_Qc G post' a) (x_A G)) (hS : va_S (x_A G) s.heap H locs)
    (kk : ∀ (r : Option Value) (h' : xH) (H1 : Heap) (locs1 : List Loc), post' r h' → x_S G h' s H1 locs1 → W p (g_l G) e R s m args below meth c H1 locs1 (cells + mc) (slots + ms) Q (F0 m (pc + 3) ls ((r.map (x_v G)).toList ++ rest))) :
    W p (g_l G) e R s m args below meth c H locs cells slots Q (F0 m pc ls st0) := by
  intro T hT X
  obtain ⟨v, st₀, t, T', L, h0, X', hL, e1, e2, ⟨⟨r, h', hv, hp, hP, hz1⟩, hz, hk⟩, st⟩ := hr T hT X
  cases hv
  rw [h0] at hz hk
  obtain ⟨t2, a1, b1⟩ := kk r h' T'.heap (locs ++ L) hp ⟨by rw [e1]; exact hP, ⟨Nat.le_trans hS.1 (by rw [e1]; exact hz), fun q h1 h2 => by rw [e1, hk q (Nat.lt_of_lt_of_le h1 hS.1) h2]; exact hS.2.1 q h1 h2, fun q hq => by
      rcases List.mem_append.mp hq with h | h
      · exact hS.2.2 q h
      · exact hL q h⟩, by rw [e1]; exact hz1⟩ T' rfl X'
  exact ⟨t2, st t2 a1, b1⟩
theorem x_S.pos (hC : x_C G M p R s m args meth c) (hS : x_S G h s H locs) : 1 ≤ h.1 := by
  have h1 := hS.2.1.1
  have h2 := hC.b
  have h3 := hS.2.2
  omega
theorem x_pre (hC : x_C G M p R s m args meth c) (hS : x_S G h s H locs) (U : State) (hU : U.heap = H) (hW : s.WarmedH U.vm) : x_Pre G h U := by
  have hb := hC.b
  refine ⟨va_K.moved hW.alike hC.K, by rw [hU]; exact hS.1, by rw [hU]; exact hS.2.2, ?_, hC.O.warm hW⟩
  rw [hU]
  exact va_X.moved hW.alike (hC.X.kept (hS.2.1.2.1 (g_b G) (by omega) (by show ¬ (g_B G + 1 ≤ g_b G); omega)))
/-- what a call of M' at entry idx of M's class needs of the tables and of the room -/
def x_cR (M M' : xM) (n : Nat) : Prop := Cond.initialized M'.1.cls ∈ xGW ∧ Cond.code M'.1 M'.2.1 M'.2.2.1 M'.2.2.2.1 ∈ xGW ∧
  (M'.1.cls ≠ "java/lang/invoke/MethodHandle" ∧ M'.1.cls ≠ "java/lang/invoke/VarHandle" ∧ (parseMethodDescriptor M'.1.desc).map (fun d => d.parameters.length) = some n) ∧ M'.2.2.2.2.1 + 1 ≤ M.2.2.2.2.1 ∧ 8 + (M'.2.2.1 + 11) + M'.2.2.2.2.2 ≤ M.2.2.2.2.2 ∧ plainFor M'.1 = true
theorem x_cB (hC : x_C G M p R s m args meth c) (hl : Cond.methodLink M.1.cls idx M'.1 ∈ xGW) (hc : x_cR M M' n) : CallB R s args M.1.cls idx M'.1 M'.2.1 M'.2.2.1 M'.2.2.2.1 (Cond.code M'.1 M'.2.1 M'.2.2.1 M'.2.2.2.1 :: xGW) (x_rm M' mc ms) mc ms n := by
  obtain ⟨h1, h2, h3, h4, h5, -⟩ := hc
  have hr := hC.room
  exact callB_of n hC.ws (xGW_GoodIn h2) rfl rfl rfl (hC.ws _ h1) (hC.ws _ hl) h3 ⟨by show M'.2.2.2.2.1 + 1 ≤ R.frames; omega, by show 8 + (M'.2.2.1 + 11) + M'.2.2.2.2.2 ≤ R.locals; omega⟩
theorem x_cN {host : String} (hC : x_C G M p R s m args meth c) (hl : (M.1.cls, idx, M'.1, host) ∈ xOW) (hc : x_cR M M' n) : va_CN R s args M.1.cls idx M'.1 host M'.2.1 M'.2.2.1 M'.2.2.2.1 (Cond.code M'.1 M'.2.1 M'.2.2.1 M'.2.2.2.1 :: xGW) (x_rm M' mc ms) mc ms n := by
  obtain ⟨h1, h2, h3, h4, h5, -⟩ := hc
  have hr := hC.room
  exact va_cnB n hC.ws (xGW_GoodIn h2) rfl rfl rfl (hC.O.2 _ hl) (hC.ws _ h1) h3 ⟨by show M'.2.2.2.2.1 + 1 ≤ R.frames; omega, by show 8 + (M'.2.2.1 + 11) + M'.2.2.2.2.2 ≤ R.locals; omega⟩
end xcallW
section xcall
variable {G : xG} {M M' : xM} {pc : Nat} {lv : List (Nat × Value)} {st rest : List Value} {h : xH} {bc bs mc ms n idx : Nat} {post : Option Value → xH → Prop}
theorem x_tl (G : xG) (r : Option Value) (rest : List Value) : (r.map (x_v G)).toList ++ rest.map (x_v G) = (r.toList ++ rest).map (x_v G) := by cases r <;> rfl
theorem x_cs (G : xG) (rest : List Value) : (rest.map (x_v G)).map (fun v => v.category) = rest.map (fun v => v.category) := by
  rw [List.map_map]
  apply List.map_congr_left
  intro v _
  exact x_v_cat G v
theorem xp_callS {vs : List Value} (hd : decode M.2.1 pc = .ok (.invokestatic idx, 3)) (hl : Cond.methodLink M.1.cls idx M'.1 ∈ xGW) (hst : Cond.static M'.1 ∈ xGW) (hc : x_cR M M' n) (hsp : st = vs.reverse ++ rest) (hn : vs.length = n) (hlen : (lg_sl vs).length ≤ M'.2.2.1) (hw : (rest.map (fun v => v.category)).sum ≤ 8)
    (kk : xp G M' 0 (lv_args 0 vs) [] h mc ms (fun r h' => xp G M (pc + 3) lv (r.toList ++ rest) h' bc bs post)) : xp G M pc lv st h (bc + mc) (bs + ms) post :=
  fun p e R s m args below meth c H locs cells slots ls Q hC hS hlv hb hQ => by
    have hM := xp_met hc.2.2.2.2.2 hlen hC.b.1 (hS.pos hC) kk
    refine x_back (va_runS (rest := rest.map (x_v G)) ⟨hC.1, hC.2.1, hC.2.2.1, hC.own, hC.ws⟩ hM ⟨x_cB hC hl hc, hC.ws _ hst⟩ ⟨x_blind G h _, fun U hU hW => ⟨rfl, x_pre hC hS U hU hW⟩⟩ rfl (by rw [List.length_map]; exact hn) hlv.1 (by rw [hsp, List.map_append, List.map_reverse]) (lv_room (by rw [x_cs]; exact hw)) hd ⟨by omega, by omega⟩) hS.2.1 ?_
    intro r h' H1 locs1 hp hS1
    rw [x_tl]
    exact hp p e R s m args below meth c H1 locs1 _ _ ls Q hC hS1 hlv ⟨by omega, by omega⟩ hQ
theorem xp_callSN {vs : List Value} {host : String} (hd : decode M.2.1 pc = .ok (.invokestatic idx, 3)) (hl : (M.1.cls, idx, M'.1, host) ∈ xOW) (hst : Cond.static M'.1 ∈ xGW) (hc : x_cR M M' n) (hsp : st = vs.reverse ++ rest) (hn : vs.length = n) (hlen : (lg_sl vs).length ≤ M'.2.2.1) (hw : (rest.map (fun v => v.category)).sum ≤ 8)
    (kk : xp G M' 0 (lv_args 0 vs) [] h mc ms (fun r h' => xp G M (pc + 3) lv (r.toList ++ rest) h' bc bs post)) : xp G M pc lv st h (bc + mc) (bs + ms) post :=
  fun p e R s m args below meth c H locs cells slots ls Q hC hS hlv hb hQ => by
    have hM := xp_met hc.2.2.2.2.2 hlen hC.b.1 (hS.pos hC) kk
    refine x_back (va_runSN (rest := rest.map (x_v G)) ⟨hC.1, hC.2.1, hC.2.2.1, hC.own, hC.ws⟩ hM ⟨x_cN hC hl hc, hC.ws _ hst, trivial⟩ ⟨x_blind G h _, fun U hU hW => ⟨rfl, x_pre hC hS U hU hW⟩⟩ rfl (by rw [List.length_map]; exact hn) hlv.1 (by rw [hsp, List.map_append, List.map_reverse]) (lv_room (by rw [x_cs]; exact hw)) hd ⟨by omega, by omega⟩) hS.2.1 ?_
    intro r h' H1 locs1 hp hS1
    rw [x_tl]
    exact hp p e R s m args below meth c H1 locs1 _ _ ls Q hC hS1 hlv ⟨by omega, by omega⟩ hQ
theorem xp_callV {As : List Value} {a ci : Nat} {T : u_T} {N : Nat} (hd : decode M.2.1 pc = .ok (.invokevirtual idx, 3)) (hl : Cond.methodLink M.1.cls idx M'.1 ∈ xGW) (hin : Cond.instanceMethod M'.1 ∈ xGW) (hse : Cond.selects M'.1.cls M'.1 M'.1 ∈ xGW) (hc : x_cR M M' n) (hcl : vwCl[ci]? = some (M'.1.cls, T, N)) (hT : (xTY a).1 = ci) (hc0 : ci < 100) (ha : 1 ≤ a ∧ a < h.1)
    (hsp : st = As.reverse ++ .ref a :: rest) (hn : As.length = n) (hlen : (lg_sl (.ref a :: As)).length ≤ M'.2.2.1) (hw : (rest.map (fun v => v.category)).sum ≤ 8)
    (kk : xp G M' 0 (lv_args 0 (.ref a :: As)) [] h mc ms (fun r h' => xp G M (pc + 3) lv (r.toList ++ rest) h' bc bs post)) : xp G M pc lv st h (bc + mc) (bs + ms) post :=
  fun p e R s m args below meth c H locs cells slots ls Q hC hS hlv hb hQ => by
    have hM := xp_met hc.2.2.2.2.2 hlen hC.b.1 (hS.pos hC) kk
    refine x_back (va_runV (C := M'.1.cls) (b := x_ad G a) (As := As.map (x_v G)) (rest := rest.map (x_v G)) ⟨hC.1, hC.2.1, hC.2.2.1, hC.own, hC.ws⟩ hM ⟨x_cB hC hl hc, hC.ws _ hin, hC.ws _ hse⟩ ⟨x_blind G h _, va_recv hC.K hS.1 hcl (x_W_obj hT hc0 ha), fun U hU hW => ⟨rfl, x_pre hC hS U hU hW⟩⟩ rfl (by rw [List.length_map]; exact hn) hlv.1 (by rw [hsp, List.map_append, List.map_reverse]; rfl) (lv_room (by rw [x_cs]; exact hw)) hd ⟨by omega, by omega⟩) hS.2.1 ?_
    intro r h' H1 locs1 hp hS1
    rw [x_tl]
    exact hp p e R s m args below meth c H1 locs1 _ _ ls Q hC hS1 hlv ⟨by omega, by omega⟩ hQ
theorem xp_callI {As : List Value} {a : Nat} (hd : decode M.2.1 pc = .ok (.invokespecial idx, 3)) (hl : Cond.methodLink M.1.cls idx M'.1 ∈ xGW) (hin : Cond.instanceMethod M'.1 ∈ xGW) (hy : M'.1.name = "<init>") (hrt : M'.2.2.2.1 = none) (hc : x_cR M M' n)
    (hsp : st = As.reverse ++ .ref a :: rest) (hn : As.length = n) (hlen : (lg_sl (.ref a :: As)).length ≤ M'.2.2.1) (hw : (rest.map (fun v => v.category)).sum ≤ 8)
    (kk : xp G M' 0 (lv_args 0 (.ref a :: As)) [] h mc ms (fun r h' => xp G M (pc + 3) lv (r.toList ++ rest) h' bc bs post)) : xp G M pc lv st h (bc + mc) (bs + ms) post :=
  fun p e R s m args below meth c H locs cells slots ls Q hC hS hlv hb hQ => by
    have hM := xp_met hc.2.2.2.2.2 hlen hC.b.1 (hS.pos hC) kk
    have hB := x_cB (mc := mc) (ms := ms) hC hl hc
    rw [hrt] at hM hB
    refine x_back (va_runI (b := x_ad G a) (As := As.map (x_v G)) (rest := rest.map (x_v G)) ⟨hC.1, hC.2.1, hC.2.2.1, hC.own, hC.ws⟩ hM ⟨hB, hy, hC.ws _ hin⟩ ⟨x_blind G h _, fun U hU hW => ⟨rfl, x_pre hC hS U hU hW⟩⟩ rfl (by rw [List.length_map]; exact hn) hlv.1 (by rw [hsp, List.map_append, List.map_reverse]; rfl) (lv_room (by rw [x_cs]; exact hw)) hd ⟨by omega, by omega⟩) hS.2.1 ?_
    intro r h' H1 locs1 hp hS1
    rw [x_tl]
    exact hp p e R s m args below meth c H1 locs1 _ _ ls Q hC hS1 hlv ⟨by omega, by omega⟩ hQ
theorem xp_callIN {As : List Value} {a : Nat} {host : String} (hd : decode M.2.1 pc = .ok (.invokespecial idx, 3)) (hl : (M.1.cls, idx, M'.1, host) ∈ xOW) (hin : Cond.instanceMethod M'.1 ∈ xGW) (hy : M'.1.name = "<init>") (hrt : M'.2.2.2.1 = none) (hc : x_cR M M' n)
    (hsp : st = As.reverse ++ .ref a :: rest) (hn : As.length = n) (hlen : (lg_sl (.ref a :: As)).length ≤ M'.2.2.1) (hw : (rest.map (fun v => v.category)).sum ≤ 8)
    (kk : xp G M' 0 (lv_args 0 (.ref a :: As)) [] h mc ms (fun r h' => xp G M (pc + 3) lv (r.toList ++ rest) h' bc bs post)) : xp G M pc lv st h (bc + mc) (bs + ms) post :=
  fun p e R s m args below meth c H locs cells slots ls Q hC hS hlv hb hQ => by
    have hM := xp_met hc.2.2.2.2.2 hlen hC.b.1 (hS.pos hC) kk
    have hB := x_cN (mc := mc) (ms := ms) hC hl hc
    rw [hrt] at hM hB
    refine x_back (va_runIN (b := x_ad G a) (As := As.map (x_v G)) (rest := rest.map (x_v G)) ⟨hC.1, hC.2.1, hC.2.2.1, hC.own, hC.ws⟩ hM ⟨hB, hy, hC.ws _ hin⟩ ⟨x_blind G h _, fun U hU hW => ⟨rfl, x_pre hC hS U hU hW⟩⟩ rfl (by rw [List.length_map]; exact hn) hlv.1 (by rw [hsp, List.map_append, List.map_reverse]; rfl) (lv_room (by rw [x_cs]; exact hw)) hd ⟨by omega, by omega⟩) hS.2.1 ?_
    intro r h' H1 locs1 hp hS1
    rw [x_tl]
    exact hp p e R s m args below meth c H1 locs1 _ _ ls Q hC hS1 hlv ⟨by omega, by omega⟩ hQ
theorem xp_objInit {a : Nat} (hd : decode M.2.1 pc = .ok (.invokespecial idx, 3)) (hl : Cond.methodLink M.1.cls idx Lib.objectInit ∈ xGW) (hin : Cond.instanceMethod Lib.objectInit ∈ xGW) (hco : Cond.code Lib.objectInit ⟨#[0xb1]⟩ 1 none ∈ xGW) (hr : 1 ≤ M.2.2.2.2.1 ∧ (rest.map (fun v => v.category)).sum + 12 ≤ M.2.2.2.2.2)
    (kk : xp G M (pc + 3) lv rest h bc bs post) : xp G M pc lv (.ref a :: rest) h bc bs post :=
  fun p e R s m args below meth c H locs cells slots ls Q hC hS hlv hb hQ => by
    have h1 := hC.room
    refine W.objInit hC.1 hC.2.1 hC.own (hC.ws _ hl) (hC.ws _ hin) (hC.ws _ hco) (a := x_ad G a) (rest := rest.map (x_v G)) rfl (hlv.1.trans hC.2.2.1.symm) rfl hd (by omega) (by show 2 * 0 + _ + 12 ≤ _; rw [x_cs]; omega) ?_
    exact W.eq (g2 := F0 m (pc + 3) ls (rest.map (x_v G))) rfl (kk p e R s m args below meth c H locs cells slots ls Q hC hS hlv hb hQ)
def x_mth (M : xM) (idx : Nat) (y : MethodName) (bytes : ByteArray) (n : Nat) (ret : Option FieldType) : Prop := Cond.methodLink M.1.cls idx y ∈ xGW ∧ Cond.static y ∈ xGW ∧ Cond.initialized "java/lang/Math" ∈ xGW ∧ Cond.code y bytes n ret ∈ xGW
theorem xp_mmax {x y : Int32} (hd : decode M.2.1 pc = .ok (.invokestatic idx, 3)) (hm : x_mth M idx Lib.Math.max.name Lib.Math.max.code 2 (some .int)) (hr : 1 ≤ M.2.2.2.2.1 ∧ (rest.map (fun v => v.category)).sum + 13 ≤ M.2.2.2.2.2)
    (kk : xp G M (pc + 3) lv (.int (if x < y then y else x) :: rest) h bc bs post) : xp G M pc lv (.int y :: .int x :: rest) h bc bs post :=
  fun p e R s m args below meth c H locs cells slots ls Q hC hS hlv hb hQ => by
    have h1 := hC.room
    exact va_mmax hC.1 hC.2.1 (hC.2.2.1.trans hlv.1.symm) hC.own (hC.ws _ hm.1) (hC.ws _ hm.2.1) (hC.ws _ hm.2.2.1) (hC.ws _ hm.2.2.2) (by omega) (by rw [x_cs]; omega) (by omega) (by omega) hd (kk p e R s m args below meth c H locs cells slots ls Q hC hS hlv hb hQ)
theorem xp_mmin {x y : Int32} (hd : decode M.2.1 pc = .ok (.invokestatic idx, 3)) (hm : x_mth M idx Lib.Math.min.name Lib.Math.min.code 2 (some .int)) (hr : 1 ≤ M.2.2.2.2.1 ∧ (rest.map (fun v => v.category)).sum + 13 ≤ M.2.2.2.2.2)
    (kk : xp G M (pc + 3) lv (.int (if y < x then y else x) :: rest) h bc bs post) : xp G M pc lv (.int y :: .int x :: rest) h bc bs post :=
  fun p e R s m args below meth c H locs cells slots ls Q hC hS hlv hb hQ => by
    have h1 := hC.room
    exact va_mmin hC.1 hC.2.1 (hC.2.2.1.trans hlv.1.symm) hC.own (hC.ws _ hm.1) (hC.ws _ hm.2.1) (hC.ws _ hm.2.2.1) (hC.ws _ hm.2.2.2) (by omega) (by rw [x_cs]; omega) (by omega) (by omega) hd (kk p e R s m args below meth c H locs cells slots ls Q hC hS hlv hb hQ)
theorem xp_labs {x : Int64} (hd : decode M.2.1 pc = .ok (.invokestatic idx, 3)) (hm : x_mth M idx Lib.MathLoose.abs_long.x Lib.MathLoose.abs_long.code 2 (some .long)) (hr : 1 ≤ M.2.2.2.2.1 ∧ (rest.map (fun v => v.category)).sum + 13 ≤ M.2.2.2.2.2)
    (kk : xp G M (pc + 3) lv (.long (if 0 < x then x else -x) :: rest) h bc bs post) : xp G M pc lv (.long x :: rest) h bc bs post :=
  fun p e R s m args below meth c H locs cells slots ls Q hC hS hlv hb hQ => by
    have h1 := hC.room
    exact va_mabs_long hC.1 hC.2.1 (hC.2.2.1.trans hlv.1.symm) hC.own (hC.ws _ hm.1) (hC.ws _ hm.2.1) (hC.ws _ hm.2.2.1) (hC.ws _ hm.2.2.2) (by omega) (by rw [x_cs]; omega) (by omega) (by omega) hd (kk p e R s m args below meth c H locs cells slots ls Q hC hS hlv hb hQ)
end xcall
