/-! the judgement 'xp': method M of the world G, at pc with locals lv and stack st (pure addresses), heap h, with room for bc cells of bs slots, comes to its return with post -/
def xGW : List Cond := lw_tbl.filter goodWord
theorem xGW_in {w : Cond} (h1 : w ∈ lw_tbl) (h2 : goodWord w = true) : w ∈ xGW := List.mem_filter.mpr ⟨h1, h2⟩
theorem xGW_good {w : Cond} (h : w ∈ xGW) : (w.onTables && w.keeps) = true ∨ ∃ ty, w = .arrayClass ty := good_of_word (List.mem_filter.mp h).2
theorem xGW_sub {w : Cond} (h : w ∈ xGW) : w ∈ lw_tbl := (List.mem_filter.mp h).1
theorem xGW_GoodIn {w : Cond} (h : w ∈ xGW) : GoodIn xGW (w :: xGW) := fun z hz => by
  rcases List.mem_cons.mp hz with rfl | h2
  · exact ⟨h, xGW_good h⟩
  · exact ⟨h2, xGW_good h2⟩
def x_O (U : State) : Prop := (∀ C ∈ xAO, va_AO C U) ∧ ∀ q ∈ xOW, va_Nw (.methodLinkNest q.1 q.2.1 q.2.2.1 q.2.2.2) U
theorem x_O.warm {s U : State} (hW : s.WarmedH U.vm) (h : x_O s) : x_O U := ⟨fun C hC => (h.1 C hC).moved hW.alike, fun q hq => va_Nw.warmM hW (h.2 q hq)⟩
theorem x_O.same {s U : State} (hv : s.vm = U.vm) (h : x_O s) : x_O U := ⟨fun C hC => (h.1 C hC).moved (by rw [hv]; exact Vm.Alike.refl _), fun q hq => va_Nw.same rfl hv (h.2 q hq)⟩
def x_C (G : xG) (M : xM) (p : Program) (R : Room) (s : State) (m : MethodId) (args : Array Value) (meth : Method) (c : Code) : Prop :=
  p.tables.exec = Jvm.exec ∧ c.code = M.2.1 ∧ c.maxLocals = M.2.2.1 ∧ meth.sig.returnType = M.2.2.2.1 ∧ (M.1.name = "<init>" → meth.name = "<init>") ∧ meth.locks = false ∧ s.vm.findClass M.1.cls = some m.cls ∧
  (∀ w ∈ xGW, w.before args s = true) ∧ va_K (g_D G) vwCl (x_tys G) s ∧ va_X (g_b G) (g_L G) (g_x G) s s.heap ∧ x_O s ∧ (g_b G ≤ g_B G ∧ g_B G < s.heap.size) ∧ M.2.2.2.2.1 ≤ R.frames ∧ M.2.2.2.2.2 ≤ R.locals
def x_S (G : xG) (h : xH) (s : State) (H : Heap) (locs : List Loc) : Prop := va_P (g_D G) vwCl (x_W G h) H ∧ va_S (x_A G) s.heap H locs ∧ H.size = g_B G + h.1
section xcacc
variable {G : xG} {M : xM} {p : Program} {R : Room} {s : State} {m : MethodId} {args : Array Value} {meth : Method} {c : Code}
theorem x_C.rt (h : x_C G M p R s m args meth c) : meth.sig.returnType = M.2.2.2.1 := h.2.2.2.1
theorem x_C.ini (h : x_C G M p R s m args meth c) : M.1.name = "<init>" → meth.name = "<init>" := h.2.2.2.2.1
theorem x_C.lk (h : x_C G M p R s m args meth c) : meth.locks = false := h.2.2.2.2.2.1
theorem x_C.own (h : x_C G M p R s m args meth c) : s.vm.findClass M.1.cls = some m.cls := h.2.2.2.2.2.2.1
theorem x_C.ws (h : x_C G M p R s m args meth c) : ∀ w ∈ xGW, w.before args s = true := h.2.2.2.2.2.2.2.1
theorem x_C.K (h : x_C G M p R s m args meth c) : va_K (g_D G) vwCl (x_tys G) s := h.2.2.2.2.2.2.2.2.1
theorem x_C.X (h : x_C G M p R s m args meth c) : va_X (g_b G) (g_L G) (g_x G) s s.heap := h.2.2.2.2.2.2.2.2.2.1
theorem x_C.O (h : x_C G M p R s m args meth c) : x_O s := h.2.2.2.2.2.2.2.2.2.2.1
theorem x_C.b (h : x_C G M p R s m args meth c) : g_b G ≤ g_B G ∧ g_B G < s.heap.size := h.2.2.2.2.2.2.2.2.2.2.2.1
theorem x_C.room (h : x_C G M p R s m args meth c) : M.2.2.2.2.1 ≤ R.frames ∧ M.2.2.2.2.2 ≤ R.locals := h.2.2.2.2.2.2.2.2.2.2.2.2
theorem x_C.new (h : x_C G M p R s m args meth c) : ∀ q : Nat, s.heap.size ≤ q → x_A G q := fun q hq => by
  have := h.b
  show g_B G + 1 ≤ q
  omega
end xcacc
def x_ret (M : xM) (pc : Nat) (r : Option Value) : Prop := match r with
  | none => decode M.2.1 pc = .ok (.return_, 1) ∧ M.2.2.2.1 = none
  | some (.int v) => decode M.2.1 pc = .ok (.ireturn, 1) ∧ ∃ ty, M.2.2.2.1 = some ty ∧ narrow ty (.int v) = .int v
  | some (.long _) => decode M.2.1 pc = .ok (.lreturn, 1) ∧ M.2.2.2.1 = some .long
  | some .null => decode M.2.1 pc = .ok (.areturn, 1) ∧ ∃ n, M.2.2.2.1 = some (.object n)
  | some (.ref _) => decode M.2.1 pc = .ok (.areturn, 1) ∧ ∃ n, M.2.2.2.1 = some (.object n)
  | _ => False
def xp (G : xG) (M : xM) (pc : Nat) (lv : List (Nat × Value)) (st : List Value) (h : xH) (bc bs : Nat) (post : Option Value → xH → Prop) : Prop :=
  ∀ (p : Program) (e : Env) (R : Room) (s : State) (m : MethodId) (args : Array Value) (below : List Frame) (meth : Method) (c : Code) (H : Heap) (locs : List Loc) (cells slots : Nat) (ls : Array Slot) (Q : State → Prop),
    x_C G M p R s m args meth c → x_S G h s H locs → lv_has ls M.2.2.1 (lv.map (x_q G)) → (cells + bc ≤ R.cells ∧ slots + bs ≤ R.slots) →
    (∀ (r : Option Value) (h' : xH) (H' : Heap) (locs' : List Loc) (pc' : Nat) (ls' : Array Slot), post r h' → x_S G h' s H' locs' → x_ret M pc' r → W p (g_l G) e R s m args below meth c H' locs' R.cells R.slots Q (F0 m pc' ls' (r.toList.map (x_v G)))) →
    W p (g_l G) e R s m args below meth c H locs cells slots Q (F0 m pc ls (st.map (x_v G)))
/-- locals -/
def x_set (lv : List (Nat × Value)) (i : Nat) (v : Value) : List (Nat × Value) := (i, v) :: lv.filter (fun q => !(q.1 == i) && !(q.1 + 1 == i && q.2.category == 2))
theorem x_set_map (G : xG) (lv : List (Nat × Value)) (i : Nat) (v : Value) : (i, x_v G v) :: (lv.map (x_q G)).filter (fun q => !(q.1 == i) && !(q.1 + 1 == i && q.2.category == 2)) = (x_set lv i v).map (x_q G) := by
  unfold x_set
  rw [List.map_cons, List.filter_map]
  refine congrArg (fun z => (i, x_v G v) :: List.map (x_q G) z) ?_
  apply List.filter_congr
  intro q _
  simp only [Function.comp, x_q, x_v_cat]
def x_sub : List (Nat × Value) → List (Nat × Value) → Prop
  | [], _ => True
  | q :: r, lv => List.lookup q.1 lv = some q.2 ∧ x_sub r lv
theorem x_lookup {i : Nat} {v : Value} : ∀ {lv : List (Nat × Value)}, List.lookup i lv = some v → (i, v) ∈ lv
  | [], h => by cases h
  | (j, w) :: r, h => by
    rw [List.lookup_cons] at h
    by_cases hj : i = j
    · subst hj
      simp at h
      subst h
      exact List.mem_cons_self
    · rw [show (i == j) = false by simpa using hj] at h
      exact List.mem_cons_of_mem _ (x_lookup h)
theorem x_sub_mem {lv : List (Nat × Value)} : ∀ {lv' : List (Nat × Value)}, x_sub lv' lv → ∀ q ∈ lv', q ∈ lv
  | [], _, q, hq => by cases hq
  | p :: r, h, q, hq => by
    rcases List.mem_cons.mp hq with rfl | h2
    · exact x_lookup h.1
    · exact x_sub_mem h.2 q h2
section xprules
variable {G : xG} {M : xM} {pc : Nat} {lv : List (Nat × Value)} {st : List Value} {h : xH} {bc bs : Nat} {post : Option Value → xH → Prop}
theorem x_lv {ls : Array Slot} {n i : Nat} {v : Value} (hl : lv_has ls n (lv.map (x_q G))) (hi : List.lookup i lv = some v) : ls[i]? = some (.val (x_v G v)) :=
  hl.2.2 (i, x_v G v) (List.mem_map.mpr ⟨(i, v), x_lookup hi, rfl⟩)
/-- fewer locals, in another order -/
theorem xp_loc {lv' : List (Nat × Value)} (hs : x_sub lv' lv) (kk : xp G M pc lv' st h bc bs post) : xp G M pc lv st h bc bs post :=
  fun p e R s m args below meth c H locs cells slots ls Q hC hS hl hb hQ => kk p e R s m args below meth c H locs cells slots ls Q hC hS
    ⟨hl.1, hl.2.1, fun q hq => by
      obtain ⟨z, hz, rfl⟩ := List.mem_map.mp hq
      exact hl.2.2 _ (List.mem_map.mpr ⟨z, x_sub_mem hs z hz, rfl⟩)⟩ hb hQ
theorem xp_mono {post' : Option Value → xH → Prop} (hp : ∀ r h', post' r h' → post r h') (kk : xp G M pc lv st h bc bs post') : xp G M pc lv st h bc bs post :=
  fun p e R s m args below meth c H locs cells slots ls Q hC hS hl hb hQ => kk p e R s m args below meth c H locs cells slots ls Q hC hS hl hb (fun r h' H' locs' pc' ls' q1 q2 q3 => hQ r h' H' locs' pc' ls' (hp r h' q1) q2 q3)
theorem xp_less {bc' bs' : Nat} (h1 : bc' ≤ bc) (h2 : bs' ≤ bs) (kk : xp G M pc lv st h bc' bs' post) : xp G M pc lv st h bc bs post :=
  fun p e R s m args below meth c H locs cells slots ls Q hC hS hl hb hQ => kk p e R s m args below meth c H locs cells slots ls Q hC hS hl ⟨by omega, by omega⟩ hQ
/-! returns -/
theorem xp_ireturn {v : Int32} {ty : FieldType} (hd : decode M.2.1 pc = .ok (.ireturn, 1)) (hr : M.2.2.2.1 = some ty) (hn : narrow ty (.int v) = .int v) (hp : post (some (.int v)) h) : xp G M pc lv [.int v] h bc bs post :=
  fun p e R s m args below meth c H locs cells slots ls Q hC hS hl hb hQ => W.widen (by omega) (by omega) (hQ (some (.int v)) h H locs pc ls hp hS ⟨hd, ty, hr, hn⟩)
theorem xp_lreturn {v : Int64} (hd : decode M.2.1 pc = .ok (.lreturn, 1)) (hr : M.2.2.2.1 = some .long) (hp : post (some (.long v)) h) : xp G M pc lv [.long v] h bc bs post :=
  fun p e R s m args below meth c H locs cells slots ls Q hC hS hl hb hQ => W.widen (by omega) (by omega) (hQ (some (.long v)) h H locs pc ls hp hS ⟨hd, hr⟩)
theorem xp_return_ (hd : decode M.2.1 pc = .ok (.return_, 1)) (hr : M.2.2.2.1 = none) (hp : post none h) : xp G M pc lv [] h bc bs post :=
  fun p e R s m args below meth c H locs cells slots ls Q hC hS hl hb hQ => W.widen (by omega) (by omega) (hQ none h H locs pc ls hp hS ⟨hd, hr⟩)
theorem xp_areturn {a : Nat} {n : String} (hd : decode M.2.1 pc = .ok (.areturn, 1)) (hr : M.2.2.2.1 = some (.object n)) (hp : post (some (.ref a)) h) : xp G M pc lv [.ref a] h bc bs post :=
  fun p e R s m args below meth c H locs cells slots ls Q hC hS hl hb hQ => W.widen (by omega) (by omega) (hQ (some (.ref a)) h H locs pc ls hp hS ⟨hd, n, hr⟩)
theorem xp_areturnN {n : String} (hd : decode M.2.1 pc = .ok (.areturn, 1)) (hr : M.2.2.2.1 = some (.object n)) (hp : post (some .null) h) : xp G M pc lv [.null] h bc bs post :=
  fun p e R s m args below meth c H locs cells slots ls Q hC hS hl hb hQ => W.widen (by omega) (by omega) (hQ (some .null) h H locs pc ls hp hS ⟨hd, n, hr⟩)
theorem xp_iconst {n : Int} {v : Int32} (hd : decode M.2.1 pc = .ok (.iconst n, 1)) (hv : Int32.ofInt n = v) (kk : xp G M (pc + 1) lv (.int v :: st) h bc bs post) : xp G M pc lv (st) h bc bs post :=
  fun p e R s m args below meth c H locs cells slots ls Q hC hS hl hb hQ => lv_iconst hC.1 hC.2.1 hd hv (kk p e R s m args below meth c H locs cells slots ls Q hC hS hl hb hQ)
theorem xp_bipush {n : Int} {v : Int32} (hd : decode M.2.1 pc = .ok (.bipush n, 2)) (hv : (Int8.ofInt n).toInt32 = v) (kk : xp G M (pc + 2) lv (.int v :: st) h bc bs post) : xp G M pc lv (st) h bc bs post :=
  fun p e R s m args below meth c H locs cells slots ls Q hC hS hl hb hQ => lv_bipush hC.1 hC.2.1 hd hv (kk p e R s m args below meth c H locs cells slots ls Q hC hS hl hb hQ)
theorem xp_sipush {n : Int} {v : Int32} (hd : decode M.2.1 pc = .ok (.sipush n, 3)) (hv : (Int16.ofInt n).toInt32 = v) (kk : xp G M (pc + 3) lv (.int v :: st) h bc bs post) : xp G M pc lv (st) h bc bs post :=
  fun p e R s m args below meth c H locs cells slots ls Q hC hS hl hb hQ => lv_sipush hC.1 hC.2.1 hd hv (kk p e R s m args below meth c H locs cells slots ls Q hC hS hl hb hQ)
theorem xp_lconst {n : Fin 2} {v : Int64} (hd : decode M.2.1 pc = .ok (.lconst n, 1)) (hv : Int64.ofNat (n : Nat) = v) (kk : xp G M (pc + 1) lv (.long v :: st) h bc bs post) : xp G M pc lv (st) h bc bs post :=
  fun p e R s m args below meth c H locs cells slots ls Q hC hS hl hb hQ => lv_lconst hC.1 hC.2.1 hd hv (kk p e R s m args below meth c H locs cells slots ls Q hC hS hl hb hQ)
theorem xp_aconst_null  (hd : decode M.2.1 pc = .ok (.aconst_null, 1)) (kk : xp G M (pc + 1) lv (.null :: st) h bc bs post) : xp G M pc lv (st) h bc bs post :=
  fun p e R s m args below meth c H locs cells slots ls Q hC hS hl hb hQ => lv_null hC.1 hC.2.1 hd (kk p e R s m args below meth c H locs cells slots ls Q hC hS hl hb hQ)
theorem xp_iload_n {k : Fin 4} {x : Int32} (hd : decode M.2.1 pc = .ok (.iload_n k, 1)) (hx : List.lookup (k : Nat) lv = some (.int x)) (kk : xp G M (pc + 1) lv (.int x :: st) h bc bs post) : xp G M pc lv (st) h bc bs post :=
  fun p e R s m args below meth c H locs cells slots ls Q hC hS hl hb hQ => lv_iload_n hC.1 hC.2.1 hd rfl (x_lv hl hx) (kk p e R s m args below meth c H locs cells slots ls Q hC hS hl hb hQ)
theorem xp_iload {i : Nat} {x : Int32} (hd : decode M.2.1 pc = .ok (.iload i, 2)) (hx : List.lookup i lv = some (.int x)) (kk : xp G M (pc + 2) lv (.int x :: st) h bc bs post) : xp G M pc lv (st) h bc bs post :=
  fun p e R s m args below meth c H locs cells slots ls Q hC hS hl hb hQ => lv_iload hC.1 hC.2.1 hd (x_lv hl hx) (kk p e R s m args below meth c H locs cells slots ls Q hC hS hl hb hQ)
theorem xp_lload_n {k : Fin 4} {x : Int64} (hd : decode M.2.1 pc = .ok (.lload_n k, 1)) (hx : List.lookup (k : Nat) lv = some (.long x)) (kk : xp G M (pc + 1) lv (.long x :: st) h bc bs post) : xp G M pc lv (st) h bc bs post :=
  fun p e R s m args below meth c H locs cells slots ls Q hC hS hl hb hQ => lv_lload_n hC.1 hC.2.1 hd rfl (x_lv hl hx) (kk p e R s m args below meth c H locs cells slots ls Q hC hS hl hb hQ)
theorem xp_lload {i : Nat} {x : Int64} (hd : decode M.2.1 pc = .ok (.lload i, 2)) (hx : List.lookup i lv = some (.long x)) (kk : xp G M (pc + 2) lv (.long x :: st) h bc bs post) : xp G M pc lv (st) h bc bs post :=
  fun p e R s m args below meth c H locs cells slots ls Q hC hS hl hb hQ => lv_lload hC.1 hC.2.1 hd (x_lv hl hx) (kk p e R s m args below meth c H locs cells slots ls Q hC hS hl hb hQ)
theorem xp_aload_n {k : Fin 4} {x : Nat} (hd : decode M.2.1 pc = .ok (.aload_n k, 1)) (hx : List.lookup (k : Nat) lv = some (.ref x)) (kk : xp G M (pc + 1) lv (.ref x :: st) h bc bs post) : xp G M pc lv (st) h bc bs post :=
  fun p e R s m args below meth c H locs cells slots ls Q hC hS hl hb hQ => lv_aload_n hC.1 hC.2.1 hd rfl (x_lv hl hx) (kk p e R s m args below meth c H locs cells slots ls Q hC hS hl hb hQ)
theorem xp_aload {i : Nat} {x : Nat} (hd : decode M.2.1 pc = .ok (.aload i, 2)) (hx : List.lookup i lv = some (.ref x)) (kk : xp G M (pc + 2) lv (.ref x :: st) h bc bs post) : xp G M pc lv (st) h bc bs post :=
  fun p e R s m args below meth c H locs cells slots ls Q hC hS hl hb hQ => lv_aload hC.1 hC.2.1 hd (x_lv hl hx) (kk p e R s m args below meth c H locs cells slots ls Q hC hS hl hb hQ)
theorem xp_aload_nN {k : Fin 4} (hd : decode M.2.1 pc = .ok (.aload_n k, 1)) (hx : List.lookup (k : Nat) lv = some .null) (kk : xp G M (pc + 1) lv (.null :: st) h bc bs post) : xp G M pc lv (st) h bc bs post :=
  fun p e R s m args below meth c H locs cells slots ls Q hC hS hl hb hQ => lv_aload_nN hC.1 hC.2.1 hd rfl (x_lv hl hx) (kk p e R s m args below meth c H locs cells slots ls Q hC hS hl hb hQ)
theorem xp_aloadN {i : Nat} (hd : decode M.2.1 pc = .ok (.aload i, 2)) (hx : List.lookup i lv = some .null) (kk : xp G M (pc + 2) lv (.null :: st) h bc bs post) : xp G M pc lv (st) h bc bs post :=
  fun p e R s m args below meth c H locs cells slots ls Q hC hS hl hb hQ => lv_aloadN hC.1 hC.2.1 hd (x_lv hl hx) (kk p e R s m args below meth c H locs cells slots ls Q hC hS hl hb hQ)
theorem xp_iadd {x y : Int32} (hd : decode M.2.1 pc = .ok (.iadd, 1)) (kk : xp G M (pc + 1) lv (.int (x + y) :: st) h bc bs post) : xp G M pc lv (.int y :: .int x :: st) h bc bs post :=
  fun p e R s m args below meth c H locs cells slots ls Q hC hS hl hb hQ => lv_iadd hC.1 hC.2.1 hd (kk p e R s m args below meth c H locs cells slots ls Q hC hS hl hb hQ)
theorem xp_isub {x y : Int32} (hd : decode M.2.1 pc = .ok (.isub, 1)) (kk : xp G M (pc + 1) lv (.int (x - y) :: st) h bc bs post) : xp G M pc lv (.int y :: .int x :: st) h bc bs post :=
  fun p e R s m args below meth c H locs cells slots ls Q hC hS hl hb hQ => lv_isub hC.1 hC.2.1 hd (kk p e R s m args below meth c H locs cells slots ls Q hC hS hl hb hQ)
theorem xp_imul {x y : Int32} (hd : decode M.2.1 pc = .ok (.imul, 1)) (kk : xp G M (pc + 1) lv (.int (x * y) :: st) h bc bs post) : xp G M pc lv (.int y :: .int x :: st) h bc bs post :=
  fun p e R s m args below meth c H locs cells slots ls Q hC hS hl hb hQ => lv_imul hC.1 hC.2.1 hd (kk p e R s m args below meth c H locs cells slots ls Q hC hS hl hb hQ)
theorem xp_iand {x y : Int32} (hd : decode M.2.1 pc = .ok (.iand, 1)) (kk : xp G M (pc + 1) lv (.int (x &&& y) :: st) h bc bs post) : xp G M pc lv (.int y :: .int x :: st) h bc bs post :=
  fun p e R s m args below meth c H locs cells slots ls Q hC hS hl hb hQ => lv_iand hC.1 hC.2.1 hd (kk p e R s m args below meth c H locs cells slots ls Q hC hS hl hb hQ)
theorem xp_ior {x y : Int32} (hd : decode M.2.1 pc = .ok (.ior, 1)) (kk : xp G M (pc + 1) lv (.int (x ||| y) :: st) h bc bs post) : xp G M pc lv (.int y :: .int x :: st) h bc bs post :=
  fun p e R s m args below meth c H locs cells slots ls Q hC hS hl hb hQ => lv_ior hC.1 hC.2.1 hd (kk p e R s m args below meth c H locs cells slots ls Q hC hS hl hb hQ)
theorem xp_ixor {x y : Int32} (hd : decode M.2.1 pc = .ok (.ixor, 1)) (kk : xp G M (pc + 1) lv (.int (x ^^^ y) :: st) h bc bs post) : xp G M pc lv (.int y :: .int x :: st) h bc bs post :=
  fun p e R s m args below meth c H locs cells slots ls Q hC hS hl hb hQ => lv_ixor hC.1 hC.2.1 hd (kk p e R s m args below meth c H locs cells slots ls Q hC hS hl hb hQ)
theorem xp_ishl {x y : Int32} (hd : decode M.2.1 pc = .ok (.ishl, 1)) (kk : xp G M (pc + 1) lv (.int (x <<< (y &&& 31)) :: st) h bc bs post) : xp G M pc lv (.int y :: .int x :: st) h bc bs post :=
  fun p e R s m args below meth c H locs cells slots ls Q hC hS hl hb hQ => lv_ishl hC.1 hC.2.1 hd (kk p e R s m args below meth c H locs cells slots ls Q hC hS hl hb hQ)
theorem xp_ishr {x y : Int32} (hd : decode M.2.1 pc = .ok (.ishr, 1)) (kk : xp G M (pc + 1) lv (.int (x >>> (y &&& 31)) :: st) h bc bs post) : xp G M pc lv (.int y :: .int x :: st) h bc bs post :=
  fun p e R s m args below meth c H locs cells slots ls Q hC hS hl hb hQ => lv_ishr hC.1 hC.2.1 hd (kk p e R s m args below meth c H locs cells slots ls Q hC hS hl hb hQ)
theorem xp_idiv {x y : Int32} (hd : decode M.2.1 pc = .ok (.idiv, 1)) (hy : ¬ y = 0) (kk : xp G M (pc + 1) lv (.int (x / y) :: st) h bc bs post) : xp G M pc lv (.int y :: .int x :: st) h bc bs post :=
  fun p e R s m args below meth c H locs cells slots ls Q hC hS hl hb hQ => lv_idiv hC.1 hC.2.1 hd hy (kk p e R s m args below meth c H locs cells slots ls Q hC hS hl hb hQ)
theorem xp_irem {x y : Int32} (hd : decode M.2.1 pc = .ok (.irem, 1)) (hy : ¬ y = 0) (kk : xp G M (pc + 1) lv (.int (x - x / y * y) :: st) h bc bs post) : xp G M pc lv (.int y :: .int x :: st) h bc bs post :=
  fun p e R s m args below meth c H locs cells slots ls Q hC hS hl hb hQ => lv_irem hC.1 hC.2.1 hd hy (kk p e R s m args below meth c H locs cells slots ls Q hC hS hl hb hQ)
theorem xp_ineg {x : Int32} (hd : decode M.2.1 pc = .ok (.ineg, 1)) (kk : xp G M (pc + 1) lv (.int (-x) :: st) h bc bs post) : xp G M pc lv (.int x :: st) h bc bs post :=
  fun p e R s m args below meth c H locs cells slots ls Q hC hS hl hb hQ => lv_ineg hC.1 hC.2.1 hd (kk p e R s m args below meth c H locs cells slots ls Q hC hS hl hb hQ)
theorem xp_lsub {x y : Int64} (hd : decode M.2.1 pc = .ok (.lsub, 1)) (kk : xp G M (pc + 1) lv (.long (x - y) :: st) h bc bs post) : xp G M pc lv (.long y :: .long x :: st) h bc bs post :=
  fun p e R s m args below meth c H locs cells slots ls Q hC hS hl hb hQ => lv_lsub hC.1 hC.2.1 hd (kk p e R s m args below meth c H locs cells slots ls Q hC hS hl hb hQ)
theorem xp_lneg {x : Int64} (hd : decode M.2.1 pc = .ok (.lneg, 1)) (kk : xp G M (pc + 1) lv (.long (-x) :: st) h bc bs post) : xp G M pc lv (.long x :: st) h bc bs post :=
  fun p e R s m args below meth c H locs cells slots ls Q hC hS hl hb hQ => lv_lneg hC.1 hC.2.1 hd (kk p e R s m args below meth c H locs cells slots ls Q hC hS hl hb hQ)
theorem xp_i2l {x : Int32} (hd : decode M.2.1 pc = .ok (.i2l, 1)) (kk : xp G M (pc + 1) lv (.long x.toInt64 :: st) h bc bs post) : xp G M pc lv (.int x :: st) h bc bs post :=
  fun p e R s m args below meth c H locs cells slots ls Q hC hS hl hb hQ => lv_i2l hC.1 hC.2.1 hd rfl (kk p e R s m args below meth c H locs cells slots ls Q hC hS hl hb hQ)
theorem xp_lcmp {x y : Int64} (hd : decode M.2.1 pc = .ok (.lcmp, 1)) (kk : xp G M (pc + 1) lv (.int (lg_cmp x y) :: st) h bc bs post) : xp G M pc lv (.long y :: .long x :: st) h bc bs post :=
  fun p e R s m args below meth c H locs cells slots ls Q hC hS hl hb hQ => W.lcmp hC.1 hC.2.1 hd (kk p e R s m args below meth c H locs cells slots ls Q hC hS hl hb hQ)
theorem xp_dup {a : Value} (hd : decode M.2.1 pc = .ok (.dup, 1)) (ha : a.category = 1) (kk : xp G M (pc + 1) lv (a :: a :: st) h bc bs post) : xp G M pc lv (a :: st) h bc bs post :=
  fun p e R s m args below meth c H locs cells slots ls Q hC hS hl hb hQ => lv_dup hC.1 hC.2.1 hd ((x_v_cat G a).trans ha) (kk p e R s m args below meth c H locs cells slots ls Q hC hS hl hb hQ)
theorem xp_pop {a : Value} (hd : decode M.2.1 pc = .ok (.pop, 1)) (ha : a.category = 1) (kk : xp G M (pc + 1) lv (st) h bc bs post) : xp G M pc lv (a :: st) h bc bs post :=
  fun p e R s m args below meth c H locs cells slots ls Q hC hS hl hb hQ => lv_pop hC.1 hC.2.1 hd ((x_v_cat G a).trans ha) (kk p e R s m args below meth c H locs cells slots ls Q hC hS hl hb hQ)
theorem xp_dup_x1 {a b : Value} (hd : decode M.2.1 pc = .ok (.dup_x1, 1)) (ha : a.category = 1) (hb2 : b.category = 1) (kk : xp G M (pc + 1) lv (a :: b :: a :: st) h bc bs post) : xp G M pc lv (a :: b :: st) h bc bs post :=
  fun p e R s m args below meth c H locs cells slots ls Q hC hS hl hb hQ => lv_dup_x1 hC.1 hC.2.1 hd ((x_v_cat G a).trans ha) ((x_v_cat G b).trans hb2) (kk p e R s m args below meth c H locs cells slots ls Q hC hS hl hb hQ)
theorem xp_dup_x2 {a b d : Value} (hd : decode M.2.1 pc = .ok (.dup_x2, 1)) (ha : a.category = 1) (hb2 : b.category = 1) (hd2 : d.category = 1) (kk : xp G M (pc + 1) lv (a :: b :: d :: a :: st) h bc bs post) : xp G M pc lv (a :: b :: d :: st) h bc bs post :=
  fun p e R s m args below meth c H locs cells slots ls Q hC hS hl hb hQ => lv_dup_x2 hC.1 hC.2.1 hd ((x_v_cat G a).trans ha) ((x_v_cat G b).trans hb2) ((x_v_cat G d).trans hd2) (kk p e R s m args below meth c H locs cells slots ls Q hC hS hl hb hQ)
theorem xp_dup2 {a b : Value} (hd : decode M.2.1 pc = .ok (.dup2, 1)) (ha : a.category = 1) (hb2 : b.category = 1) (kk : xp G M (pc + 1) lv (a :: b :: a :: b :: st) h bc bs post) : xp G M pc lv (a :: b :: st) h bc bs post :=
  fun p e R s m args below meth c H locs cells slots ls Q hC hS hl hb hQ => lv_dup2_11 hC.1 hC.2.1 hd ((x_v_cat G a).trans ha) ((x_v_cat G b).trans hb2) (kk p e R s m args below meth c H locs cells slots ls Q hC hS hl hb hQ)
theorem xp_istore_n {k : Fin 4} {x : Int32} (hd : decode M.2.1 pc = .ok (.istore_n k, 1)) (hn : (k : Nat) < M.2.2.1) (kk : xp G M (pc + 1) (x_set lv (k : Nat) (.int x)) st h bc bs post) : xp G M pc lv (.int x :: st) h bc bs post :=
  fun p e R s m args below meth c H locs cells slots ls Q hC hS hl hb hQ => lv_istore_n hC.1 hC.2.1 hd rfl hl hn (x_set_map G lv k (.int x)) (fun ls hl => kk p e R s m args below meth c H locs cells slots ls Q hC hS hl hb hQ)
theorem xp_istore {i : Nat} {x : Int32} (hd : decode M.2.1 pc = .ok (.istore i, 2)) (hn : i < M.2.2.1) (kk : xp G M (pc + 2) (x_set lv i (.int x)) st h bc bs post) : xp G M pc lv (.int x :: st) h bc bs post :=
  fun p e R s m args below meth c H locs cells slots ls Q hC hS hl hb hQ => lv_istore hC.1 hC.2.1 hd hl hn (x_set_map G lv i (.int x)) (fun ls hl => kk p e R s m args below meth c H locs cells slots ls Q hC hS hl hb hQ)
theorem xp_astore_n {k : Fin 4} {x : Nat} (hd : decode M.2.1 pc = .ok (.astore_n k, 1)) (hn : (k : Nat) < M.2.2.1) (kk : xp G M (pc + 1) (x_set lv (k : Nat) (.ref x)) st h bc bs post) : xp G M pc lv (.ref x :: st) h bc bs post :=
  fun p e R s m args below meth c H locs cells slots ls Q hC hS hl hb hQ => lv_astore_n hC.1 hC.2.1 hd rfl hl hn (x_set_map G lv k (.ref x)) (fun ls hl => kk p e R s m args below meth c H locs cells slots ls Q hC hS hl hb hQ)
theorem xp_astore {i : Nat} {x : Nat} (hd : decode M.2.1 pc = .ok (.astore i, 2)) (hn : i < M.2.2.1) (kk : xp G M (pc + 2) (x_set lv i (.ref x)) st h bc bs post) : xp G M pc lv (.ref x :: st) h bc bs post :=
  fun p e R s m args below meth c H locs cells slots ls Q hC hS hl hb hQ => lv_astore hC.1 hC.2.1 hd hl hn (x_set_map G lv i (.ref x)) (fun ls hl => kk p e R s m args below meth c H locs cells slots ls Q hC hS hl hb hQ)
theorem xp_astore_nN {k : Fin 4} (hd : decode M.2.1 pc = .ok (.astore_n k, 1)) (hn : (k : Nat) < M.2.2.1) (kk : xp G M (pc + 1) (x_set lv (k : Nat) (.null)) st h bc bs post) : xp G M pc lv (.null :: st) h bc bs post :=
  fun p e R s m args below meth c H locs cells slots ls Q hC hS hl hb hQ => lv_astore_nN hC.1 hC.2.1 hd rfl hl hn (x_set_map G lv k .null) (fun ls hl => kk p e R s m args below meth c H locs cells slots ls Q hC hS hl hb hQ)
theorem xp_astoreN {i : Nat} (hd : decode M.2.1 pc = .ok (.astore i, 2)) (hn : i < M.2.2.1) (kk : xp G M (pc + 2) (x_set lv i (.null)) st h bc bs post) : xp G M pc lv (.null :: st) h bc bs post :=
  fun p e R s m args below meth c H locs cells slots ls Q hC hS hl hb hQ => lv_astoreN hC.1 hC.2.1 hd hl hn (x_set_map G lv i .null) (fun ls hl => kk p e R s m args below meth c H locs cells slots ls Q hC hS hl hb hQ)
def x_setL (lv : List (Nat × Value)) (i : Nat) (v : Value) : List (Nat × Value) := (i, v) :: lv.filter (fun q => !(q.1 == i) && (!(q.1 == i + 1) && !(q.1 + 1 == i && q.2.category == 2)))
theorem x_setL_map (G : xG) (lv : List (Nat × Value)) (i : Nat) (v : Value) : (i, x_v G v) :: (lv.map (x_q G)).filter (fun q => !(q.1 == i) && (!(q.1 == i + 1) && !(q.1 + 1 == i && q.2.category == 2))) = (x_setL lv i v).map (x_q G) := by
  unfold x_setL
  rw [List.map_cons, List.filter_map]
  refine congrArg (fun z => (i, x_v G v) :: List.map (x_q G) z) ?_
  apply List.filter_congr
  intro q _
  simp only [Function.comp, x_q, x_v_cat]
theorem xp_lstore_n {k : Fin 4} {x : Int64} (hd : decode M.2.1 pc = .ok (.lstore_n k, 1)) (hn : (k : Nat) + 1 < M.2.2.1) (kk : xp G M (pc + 1) (x_setL lv (k : Nat) (.long x)) st h bc bs post) : xp G M pc lv (.long x :: st) h bc bs post :=
  fun p e R s m args below meth c H locs cells slots ls Q hC hS hl hb hQ => lv_lstore_n hC.1 hC.2.1 hd rfl hl hn (x_setL_map G lv k (.long x)) (fun ls hl => kk p e R s m args below meth c H locs cells slots ls Q hC hS hl hb hQ)
theorem xp_lstore {i : Nat} {x : Int64} (hd : decode M.2.1 pc = .ok (.lstore i, 2)) (hn : i + 1 < M.2.2.1) (kk : xp G M (pc + 2) (x_setL lv i (.long x)) st h bc bs post) : xp G M pc lv (.long x :: st) h bc bs post :=
  fun p e R s m args below meth c H locs cells slots ls Q hC hS hl hb hQ => lv_lstore hC.1 hC.2.1 hd hl hn (x_setL_map G lv i (.long x)) (fun ls hl => kk p e R s m args below meth c H locs cells slots ls Q hC hS hl hb hQ)
theorem xp_iinc {i : Nat} {n : Int} {x : Int32} (hd : decode M.2.1 pc = .ok (.iinc i n, 3)) (hx : List.lookup i lv = some (.int x)) (hn : i < M.2.2.1) (kk : xp G M (pc + 3) (x_set lv i (.int (x + Int32.ofInt n))) st h bc bs post) : xp G M pc lv st h bc bs post :=
  fun p e R s m args below meth c H locs cells slots ls Q hC hS hl hb hQ => by
    obtain ⟨k, hk⟩ := List.getElem?_of_mem (List.mem_map.mpr ⟨(i, Value.int x), x_lookup hx, rfl⟩ : x_q G (i, .int x) ∈ lv.map (x_q G))
    exact lv_iinc hC.1 hC.2.1 hd hl hk rfl hn (x_set_map G lv i (.int (x + Int32.ofInt n))) (fun ls hl => kk p e R s m args below meth c H locs cells slots ls Q hC hS hl hb hQ)
theorem xp_if_eq {x : Int32} {off : Int} {tgt : Nat} (hd : decode M.2.1 pc = .ok (.ifCond .eq off, 3)) (ht : (pc : Int) + off = (tgt : Int)) (kt : x = 0 → xp G M tgt lv st h bc bs post) (kf : ¬ x = 0 → xp G M (pc + 3) lv st h bc bs post) : xp G M pc lv (.int x :: st) h bc bs post :=
  fun p e R s m args below meth c H locs cells slots ls Q hC hS hl hb hQ => lv_if_eq hC.1 hC.2.1 hd ht (fun q => kt q p e R s m args below meth c H locs cells slots ls Q hC hS hl hb hQ) (fun q => kf q p e R s m args below meth c H locs cells slots ls Q hC hS hl hb hQ)
theorem xp_if_ne {x : Int32} {off : Int} {tgt : Nat} (hd : decode M.2.1 pc = .ok (.ifCond .ne off, 3)) (ht : (pc : Int) + off = (tgt : Int)) (kt : ¬ x = 0 → xp G M tgt lv st h bc bs post) (kf : x = 0 → xp G M (pc + 3) lv st h bc bs post) : xp G M pc lv (.int x :: st) h bc bs post :=
  fun p e R s m args below meth c H locs cells slots ls Q hC hS hl hb hQ => lv_if_ne hC.1 hC.2.1 hd ht (fun q => kt q p e R s m args below meth c H locs cells slots ls Q hC hS hl hb hQ) (fun q => kf q p e R s m args below meth c H locs cells slots ls Q hC hS hl hb hQ)
theorem xp_if_lt {x : Int32} {off : Int} {tgt : Nat} (hd : decode M.2.1 pc = .ok (.ifCond .lt off, 3)) (ht : (pc : Int) + off = (tgt : Int)) (kt : x < 0 → xp G M tgt lv st h bc bs post) (kf : ¬ x < 0 → xp G M (pc + 3) lv st h bc bs post) : xp G M pc lv (.int x :: st) h bc bs post :=
  fun p e R s m args below meth c H locs cells slots ls Q hC hS hl hb hQ => lv_if_lt hC.1 hC.2.1 hd ht (fun q => kt q p e R s m args below meth c H locs cells slots ls Q hC hS hl hb hQ) (fun q => kf q p e R s m args below meth c H locs cells slots ls Q hC hS hl hb hQ)
theorem xp_if_ge {x : Int32} {off : Int} {tgt : Nat} (hd : decode M.2.1 pc = .ok (.ifCond .ge off, 3)) (ht : (pc : Int) + off = (tgt : Int)) (kt : 0 ≤ x → xp G M tgt lv st h bc bs post) (kf : ¬ 0 ≤ x → xp G M (pc + 3) lv st h bc bs post) : xp G M pc lv (.int x :: st) h bc bs post :=
  fun p e R s m args below meth c H locs cells slots ls Q hC hS hl hb hQ => lv_if_ge hC.1 hC.2.1 hd ht (fun q => kt q p e R s m args below meth c H locs cells slots ls Q hC hS hl hb hQ) (fun q => kf q p e R s m args below meth c H locs cells slots ls Q hC hS hl hb hQ)
theorem xp_if_gt {x : Int32} {off : Int} {tgt : Nat} (hd : decode M.2.1 pc = .ok (.ifCond .gt off, 3)) (ht : (pc : Int) + off = (tgt : Int)) (kt : 0 < x → xp G M tgt lv st h bc bs post) (kf : ¬ 0 < x → xp G M (pc + 3) lv st h bc bs post) : xp G M pc lv (.int x :: st) h bc bs post :=
  fun p e R s m args below meth c H locs cells slots ls Q hC hS hl hb hQ => lv_if_gt hC.1 hC.2.1 hd ht (fun q => kt q p e R s m args below meth c H locs cells slots ls Q hC hS hl hb hQ) (fun q => kf q p e R s m args below meth c H locs cells slots ls Q hC hS hl hb hQ)
theorem xp_if_le {x : Int32} {off : Int} {tgt : Nat} (hd : decode M.2.1 pc = .ok (.ifCond .le off, 3)) (ht : (pc : Int) + off = (tgt : Int)) (kt : x ≤ 0 → xp G M tgt lv st h bc bs post) (kf : ¬ x ≤ 0 → xp G M (pc + 3) lv st h bc bs post) : xp G M pc lv (.int x :: st) h bc bs post :=
  fun p e R s m args below meth c H locs cells slots ls Q hC hS hl hb hQ => lv_if_le hC.1 hC.2.1 hd ht (fun q => kt q p e R s m args below meth c H locs cells slots ls Q hC hS hl hb hQ) (fun q => kf q p e R s m args below meth c H locs cells slots ls Q hC hS hl hb hQ)
theorem xp_icmp_eq {x y : Int32} {off : Int} {tgt : Nat} (hd : decode M.2.1 pc = .ok (.if_icmp .eq off, 3)) (ht : (pc : Int) + off = (tgt : Int)) (kt : x = y → xp G M tgt lv st h bc bs post) (kf : ¬ x = y → xp G M (pc + 3) lv st h bc bs post) : xp G M pc lv (.int y :: .int x :: st) h bc bs post :=
  fun p e R s m args below meth c H locs cells slots ls Q hC hS hl hb hQ => lv_icmp_eq hC.1 hC.2.1 hd ht (fun q => kt q p e R s m args below meth c H locs cells slots ls Q hC hS hl hb hQ) (fun q => kf q p e R s m args below meth c H locs cells slots ls Q hC hS hl hb hQ)
theorem xp_icmp_ne {x y : Int32} {off : Int} {tgt : Nat} (hd : decode M.2.1 pc = .ok (.if_icmp .ne off, 3)) (ht : (pc : Int) + off = (tgt : Int)) (kt : ¬ x = y → xp G M tgt lv st h bc bs post) (kf : x = y → xp G M (pc + 3) lv st h bc bs post) : xp G M pc lv (.int y :: .int x :: st) h bc bs post :=
  fun p e R s m args below meth c H locs cells slots ls Q hC hS hl hb hQ => lv_icmp_ne hC.1 hC.2.1 hd ht (fun q => kt q p e R s m args below meth c H locs cells slots ls Q hC hS hl hb hQ) (fun q => kf q p e R s m args below meth c H locs cells slots ls Q hC hS hl hb hQ)
theorem xp_icmp_lt {x y : Int32} {off : Int} {tgt : Nat} (hd : decode M.2.1 pc = .ok (.if_icmp .lt off, 3)) (ht : (pc : Int) + off = (tgt : Int)) (kt : x < y → xp G M tgt lv st h bc bs post) (kf : ¬ x < y → xp G M (pc + 3) lv st h bc bs post) : xp G M pc lv (.int y :: .int x :: st) h bc bs post :=
  fun p e R s m args below meth c H locs cells slots ls Q hC hS hl hb hQ => lv_icmp_lt hC.1 hC.2.1 hd ht (fun q => kt q p e R s m args below meth c H locs cells slots ls Q hC hS hl hb hQ) (fun q => kf q p e R s m args below meth c H locs cells slots ls Q hC hS hl hb hQ)
theorem xp_icmp_ge {x y : Int32} {off : Int} {tgt : Nat} (hd : decode M.2.1 pc = .ok (.if_icmp .ge off, 3)) (ht : (pc : Int) + off = (tgt : Int)) (kt : y ≤ x → xp G M tgt lv st h bc bs post) (kf : ¬ y ≤ x → xp G M (pc + 3) lv st h bc bs post) : xp G M pc lv (.int y :: .int x :: st) h bc bs post :=
  fun p e R s m args below meth c H locs cells slots ls Q hC hS hl hb hQ => lv_icmp_ge hC.1 hC.2.1 hd ht (fun q => kt q p e R s m args below meth c H locs cells slots ls Q hC hS hl hb hQ) (fun q => kf q p e R s m args below meth c H locs cells slots ls Q hC hS hl hb hQ)
theorem xp_icmp_gt {x y : Int32} {off : Int} {tgt : Nat} (hd : decode M.2.1 pc = .ok (.if_icmp .gt off, 3)) (ht : (pc : Int) + off = (tgt : Int)) (kt : y < x → xp G M tgt lv st h bc bs post) (kf : ¬ y < x → xp G M (pc + 3) lv st h bc bs post) : xp G M pc lv (.int y :: .int x :: st) h bc bs post :=
  fun p e R s m args below meth c H locs cells slots ls Q hC hS hl hb hQ => lv_icmp_gt hC.1 hC.2.1 hd ht (fun q => kt q p e R s m args below meth c H locs cells slots ls Q hC hS hl hb hQ) (fun q => kf q p e R s m args below meth c H locs cells slots ls Q hC hS hl hb hQ)
theorem xp_icmp_le {x y : Int32} {off : Int} {tgt : Nat} (hd : decode M.2.1 pc = .ok (.if_icmp .le off, 3)) (ht : (pc : Int) + off = (tgt : Int)) (kt : x ≤ y → xp G M tgt lv st h bc bs post) (kf : ¬ x ≤ y → xp G M (pc + 3) lv st h bc bs post) : xp G M pc lv (.int y :: .int x :: st) h bc bs post :=
  fun p e R s m args below meth c H locs cells slots ls Q hC hS hl hb hQ => lv_icmp_le hC.1 hC.2.1 hd ht (fun q => kt q p e R s m args below meth c H locs cells slots ls Q hC hS hl hb hQ) (fun q => kf q p e R s m args below meth c H locs cells slots ls Q hC hS hl hb hQ)
theorem xp_goto {off : Int} {tgt : Nat} (hd : decode M.2.1 pc = .ok (.goto off, 3)) (ht : (pc : Int) + off = (tgt : Int)) (kk : xp G M tgt lv st h bc bs post) : xp G M pc lv (st) h bc bs post :=
  fun p e R s m args below meth c H locs cells slots ls Q hC hS hl hb hQ => lv_goto hC.1 hC.2.1 hd ht (kk p e R s m args below meth c H locs cells slots ls Q hC hS hl hb hQ)
theorem xp_ifnonnull {off : Int} {tgt : Nat} {x : Nat} (hd : decode M.2.1 pc = .ok (.ifnonnull off, 3)) (ht : (pc : Int) + off = (tgt : Int)) (kk : xp G M tgt lv st h bc bs post) : xp G M pc lv (.ref x :: st) h bc bs post :=
  fun p e R s m args below meth c H locs cells slots ls Q hC hS hl hb hQ => lv_ifnonnull hC.1 hC.2.1 hd ht (kk p e R s m args below meth c H locs cells slots ls Q hC hS hl hb hQ)
theorem xp_ifnull {off : Int} {x : Nat} (hd : decode M.2.1 pc = .ok (.ifnull off, 3)) (kk : xp G M (pc + 3) lv st h bc bs post) : xp G M pc lv (.ref x :: st) h bc bs post :=
  fun p e R s m args below meth c H locs cells slots ls Q hC hS hl hb hQ => lv_ifnull hC.1 hC.2.1 hd (kk p e R s m args below meth c H locs cells slots ls Q hC hS hl hb hQ)
theorem xp_ifnullN {off : Int} {tgt : Nat} (hd : decode M.2.1 pc = .ok (.ifnull off, 3)) (ht : (pc : Int) + off = (tgt : Int)) (kk : xp G M tgt lv st h bc bs post) : xp G M pc lv (.null :: st) h bc bs post :=
  fun p e R s m args below meth c H locs cells slots ls Q hC hS hl hb hQ => lv_ifnullN hC.1 hC.2.1 hd ht (kk p e R s m args below meth c H locs cells slots ls Q hC hS hl hb hQ)
theorem xp_ifnonnullN {off : Int} (hd : decode M.2.1 pc = .ok (.ifnonnull off, 3)) (kk : xp G M (pc + 3) lv st h bc bs post) : xp G M pc lv (.null :: st) h bc bs post :=
  fun p e R s m args below meth c H locs cells slots ls Q hC hS hl hb hQ => lv_ifnonnullN hC.1 hC.2.1 hd (kk p e R s m args below meth c H locs cells slots ls Q hC hS hl hb hQ)
theorem xp_tableOut {dflt lo hi : Int} {offs : Array Int} {len : Nat} {x : Int32} {tgt : Nat} (hd : decode M.2.1 pc = .ok (.tableswitch dflt lo hi offs, len)) (hx : x.toInt < lo ∨ hi < x.toInt) (ht : (pc : Int) + dflt = (tgt : Int)) (kk : xp G M tgt lv st h bc bs post) : xp G M pc lv (.int x :: st) h bc bs post :=
  fun p e R s m args below meth c H locs cells slots ls Q hC hS hl hb hQ => lv_tableOut hC.1 hC.2.1 hd hx ht (kk p e R s m args below meth c H locs cells slots ls Q hC hS hl hb hQ)
theorem xp_tableIn {dflt lo hi : Int} {offs : Array Int} {len : Nat} {x : Int32} {off : Int} {tgt : Nat} (hd : decode M.2.1 pc = .ok (.tableswitch dflt lo hi offs, len)) (h1 : ¬ x.toInt < lo) (h2 : ¬ hi < x.toInt) (ho : offs[(x.toInt - lo).toNat]? = some off) (ht : (pc : Int) + off = (tgt : Int)) (kk : xp G M tgt lv st h bc bs post) : xp G M pc lv (.int x :: st) h bc bs post :=
  fun p e R s m args below meth c H locs cells slots ls Q hC hS hl hb hQ => lv_tableIn hC.1 hC.2.1 hd h1 h2 ho ht (kk p e R s m args below meth c H locs cells slots ls Q hC hS hl hb hQ)
theorem xp_ldc {index : Nat} {v : Int32} (hd : decode M.2.1 pc = .ok (.ldc index, 2)) (hw : Cond.constant M.1.cls index v ∈ xGW) (kk : xp G M (pc + 2) lv (.int v :: st) h bc bs post) : xp G M pc lv st h bc bs post :=
  fun p e R s m args below meth c H locs cells slots ls Q hC hS hl hb hQ => lv_ldc hC.1 hC.2.1 hC.own (hC.ws _ hw) hd (kk p e R s m args below meth c H locs cells slots ls Q hC hS hl hb hQ)
theorem xp_ldc2 {index : Nat} {v : Int64} (hd : decode M.2.1 pc = .ok (.ldc2_w index, 3)) (hw : Cond.constantLong M.1.cls index v ∈ xGW) (kk : xp G M (pc + 3) lv (.long v :: st) h bc bs post) : xp G M pc lv st h bc bs post :=
  fun p e R s m args below meth c H locs cells slots ls Q hC hS hl hb hQ => lv_ldc2 hC.1 hC.2.1 hC.own (hC.ws _ hw) hd (kk p e R s m args below meth c H locs cells slots ls Q hC hS hl hb hQ)
end xprules
