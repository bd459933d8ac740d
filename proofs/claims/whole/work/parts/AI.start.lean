/-! THE CLAIM OUT OF ONE WALK OF THE LAW'S BODY. Your part is whole_start (and what it stands on); all else here is the same for every law, but numbers. -/
def R_law : String := "TokenBusLaw"
def lw_P (b : Addr) (xs : List Int32) (args : Array Value) (s : State) : Prop := args = #[.ref b] ∧ s.IntsAt b xs ∧ xs.length ≤ 2560 ∧ (Jvm.Cond.and given_1 narrow_1).before args s = true
def lw_Q (_ : Array Value) (s : State) (o : Outcome) (t : State) : Prop := o = .returned (some (.int 1)) ∧ Framed s o t [] 600000 7302250
def lw_Z (below : List Frame) (a : Array Value) (s : State) : State → Prop := fun t => ∃ o, t.status = .running ∧ Ended t below o ∧ lw_Q a s o t
/-- the law's own end, with 1 on the stack, nothing written that was there before, its room as the claim has it -/
theorem lw_ret {p : Program} {l : Launch} {e : Env} {s : State} {m : MethodId} {below : List Frame} {meth : Method} {c : Code} {b : Nat} (hx : p.tables.exec = Jvm.exec) (hb : c.code = code) (hr : meth.sig.returnType = ret) (hlocks : meth.locks = false) {pc : Nat} {H : Heap} {ls : Array Slot} (hdg : decode code pc = .ok (.ireturn, 1)) : W p l e room_1 s m #[Value.ref b] below meth c H [] 600000 7302250 (lw_Z below #[Value.ref b] s) (F0 m pc ls [.int 1]) := by
  intro T hT X
  obtain ⟨fs, hret, hrun, hended, hW, hframe⟩ := X.leave (v := some (.int 1)) (hlocks := hlocks) (fun h => by rw [hr] at h; cases h)
  have hmeth' : T.vm.method? m = some meth := X.method'
  refine ⟨T.setFrames fs, ?_, .returned (some (.int 1)), hrun, hended, rfl, ⟨_, rfl⟩, hW, hframe⟩
  jvm_step X.here [X.here.top, hx, hb, hdg, hmeth', hr, ret, narrow_b1]
  (try refine ⟨rfl, ?_⟩); (try refine ⟨rfl, ?_⟩)
  first | (intro acts; rw [hret _ acts rfl rfl rfl]) | rw [hret _ _ rfl rfl rfl]
  exact Steps.refl _
/-- what holds at the law's entry: the machine, the code, the tables' words (any of lw_tbl by 'hts w (by decide +kernel)'), the script of L ints xs at the cell b, what the Statement gives of the start (any of its parts by flat_of_before) -/
def lw_At (p : Program) (s : State) (m : MethodId) (meth : Method) (c : Code) (b L : Nat) (xs : Nat → Int32) : Prop :=
  p.tables.exec = Jvm.exec ∧ c.code = code ∧ meth.sig.returnType = ret ∧ c.maxLocals = 4 ∧ s.vm.findClass R_law = some m.cls ∧ (∀ w ∈ lw_tbl, w.before #[Value.ref b] s = true) ∧ va_X b L xs s s.heap ∧ b < s.heap.size ∧ meth.locks = false ∧ (Jvm.Cond.and given_1 narrow_1).before #[Value.ref b] s = true
/-! the law's body from its 'xp' -/
theorem x_ao1 : Cond.arrayOver (.object xC_Node) ∈ lw_tbl := List.mem_of_getElem? (i := 66) (by decide +kernel)
theorem x_ao2 : Cond.arrayOver (.object xC_Request) ∈ lw_tbl := List.mem_of_getElem? (i := 68) (by decide +kernel)
theorem x_ao3 : Cond.arrayOver (.object xC_Subscription) ∈ lw_tbl := List.mem_of_getElem? (i := 131) (by decide +kernel)
theorem x_ow_in : ∀ q ∈ xOW, Cond.methodLinkNest q.1 q.2.1 q.2.2.1 q.2.2.2 ∈ lw_tbl := by decide +kernel
theorem x_O_start {args : Array Value} {s : State} (hts : ∀ w ∈ lw_tbl, w.before args s = true) : x_O s := by
  refine ⟨fun C hC => ?_, fun q hq => va_Nw.of rfl (hts _ (x_ow_in q hq))⟩
  rcases List.mem_cons.mp hC with rfl | h2
  · exact va_AO.of (hts _ x_ao1)
  rcases List.mem_cons.mp h2 with rfl | h3
  · exact va_AO.of (hts _ x_ao2)
  rcases List.mem_cons.mp h3 with rfl | h4
  · exact va_AO.of (hts _ x_ao3)
  · cases h4
theorem x_K_start {args : Array Value} {s : State} (hts : ∀ w ∈ lw_tbl, w.before args s = true) : ∃ (D : va_G) (cA : Nat → ClassId), va_K D vwCl [(cA 100, .int), (cA 101, .boolean), (cA 102, .object xC_Node), (cA 103, .object xC_Request), (cA 104, .object xC_Subscription)] s := by
  have hg : ∀ w ∈ xGW, w.before args s = true := fun w h => hts w (xGW_sub h)
  have hk : ∀ c : Nat, ∃ x : ClassId × (Nat → Nat), ∀ q, vwCl[c]? = some q → u_Kn s q.1 q.2.1 q.2.2 x.1 x.2 := by
    intro c
    match c with
    | 0 =>
      obtain ⟨a, i, h⟩ := u_known hg xw_B (hg _ it_B)
      exact ⟨(a, i), fun q hq => by cases hq; exact h⟩
    | 1 =>
      obtain ⟨a, i, h⟩ := u_known hg xw_F (hg _ it_F)
      exact ⟨(a, i), fun q hq => by cases hq; exact h⟩
    | 2 =>
      obtain ⟨a, i, h⟩ := u_known hg xw_R (hg _ it_R)
      exact ⟨(a, i), fun q hq => by cases hq; exact h⟩
    | 3 =>
      obtain ⟨a, i, h⟩ := u_known hg xw_S (hg _ it_S)
      exact ⟨(a, i), fun q hq => by cases hq; exact h⟩
    | 4 =>
      obtain ⟨a, i, h⟩ := u_known hg xw_O (hg _ it_O)
      exact ⟨(a, i), fun q hq => by cases hq; exact h⟩
    | 5 =>
      obtain ⟨a, i, h⟩ := u_known hg xw_L (hg _ it_L)
      exact ⟨(a, i), fun q hq => by cases hq; exact h⟩
    | 6 =>
      obtain ⟨a, i, h⟩ := u_known hg xw_N (hg _ it_N)
      exact ⟨(a, i), fun q hq => by cases hq; exact h⟩
    | 7 =>
      obtain ⟨a, i, h⟩ := u_known hg xw_M (hg _ it_M)
      exact ⟨(a, i), fun q hq => by cases hq; exact h⟩
    | c + 8 => exact ⟨(0, fun _ => 0), fun q hq => by
        have hl : c + 8 < vwCl.length := (List.getElem?_eq_some_iff.mp hq).1
        have h8 : vwCl.length = 8 := rfl
        omega⟩
  obtain ⟨f, hf⟩ := Classical.skolem.mp hk
  obtain ⟨c1, k1, p1, a1, a2, a3⟩ := Cond.arrayClass_spec (hg _ ac_int)
  obtain ⟨c2, k2, p2, b1, b2, b3⟩ := Cond.arrayClass_spec (hg _ ac_boolean)
  obtain ⟨p3, c3, k3, d1, -, d2, d3, d4⟩ := Cond.arrayOver_spec (hts _ x_ao1)
  obtain ⟨p4, c4, k4, e1, -, e2, e3, e4⟩ := Cond.arrayOver_spec (hts _ x_ao2)
  obtain ⟨p5, c5, k5, f1, -, f2, f3, f4⟩ := Cond.arrayOver_spec (hts _ x_ao3)
  refine ⟨(fun c => (f c).1, fun c => (f c).2), fun k => if k = 100 then c1 else if k = 101 then c2 else if k = 102 then c3 else if k = 103 then c4 else c5, fun c q hq => hf c q hq, fun k q hq => ?_⟩
  match k with
  | 0 =>
    cases hq
    exact ⟨fun N z => ⟨(fun k h => by cases h), k1, a2, p1, a3⟩, a1⟩
  | 1 =>
    cases hq
    exact ⟨fun N z => ⟨(fun k h => by cases h), k2, b2, p2, b3⟩, b1⟩
  | 2 =>
    cases hq
    exact ⟨fun N z => ⟨(fun k h => by cases h), k3, d2, p3, d3⟩, k3, p3, d2, d3, d1, d4⟩
  | 3 =>
    cases hq
    exact ⟨fun N z => ⟨(fun k h => by cases h), k4, e2, p4, e3⟩, k4, p4, e2, e3, e1, e4⟩
  | 4 =>
    cases hq
    exact ⟨fun N z => ⟨(fun k h => by cases h), k5, f2, p5, f3⟩, k5, p5, f2, f3, f1, f4⟩
  | k + 5 => cases hq
/-- the walk of the law's body, once its 'xp' stands (open: the hypothesis 'law' is the law's own contract) -/
theorem x_start_open (law : ∀ G : xG, g_L G ≤ 2560 → xp G M_W_law 0 [(0, .ref 0)] [] (1, fun _ _ => 0, fun _ _ => none) 60000 1000000 (fun r _ => r = some (.int 1)))
    {p : Program} {e : Env} {s : State} {m : MethodId} {below : List Frame} {meth : Method} {c : Code} (l : Launch) {b L : Nat} {xs : Nat → Int32} (hL : L ≤ 2560) (C0 : lw_At p s m meth c b L xs) : W p l e room_1 s m #[Value.ref b] below meth c s.heap [] 0 0 (lw_Z below #[Value.ref b] s) (entryFrame m ([Value.ref b] : List Value).toArray 4) := by
  obtain ⟨hx, hb, hr, hml, hown, hts, hX, hbl, hlk, -⟩ := C0
  obtain ⟨D, cA, hK⟩ := x_K_start hts
  have hO := x_O_start hts
  have hl := lv_entry ([.ref b]) (n := 4) (Nat.le_of_ble_eq_true rfl)
  rw [lg_entry_eq]
  have hC : x_C (l, D, cA, s.heap.size - 1, b, L, xs) M_W_law p room_1 s m #[Value.ref b] meth c := ⟨hx, hb, hml, hr, fun h => absurd h (by decide), hlk, hown, fun w h => hts w (xGW_sub h), hK, hX, hO, ⟨by show b ≤ s.heap.size - 1; omega, by show s.heap.size - 1 < s.heap.size; omega⟩, by decide, by decide⟩
  refine law (l, D, cA, s.heap.size - 1, b, L, xs) hL p e room_1 s m #[Value.ref b] below meth c s.heap [] 0 0 _ (lw_Z below #[Value.ref b] s) hC ⟨fun k q hq => ?_, va_S.rf, ?_⟩ hl ⟨by decide, by decide⟩ ?_
  · cases hq
  · show s.heap.size = s.heap.size - 1 + 1
    omega
  · intro r h' H' locs' pc' ls' hp hS hret
    subst hp
    obtain ⟨hd, -⟩ := hret
    refine va_forget (fun q hq => ?_) (lw_ret hx hb hr hlk hd)
    have := hS.2.1.2.2 q hq
    have h5 : s.heap.size - 1 + 1 ≤ q.base := this
    omega
