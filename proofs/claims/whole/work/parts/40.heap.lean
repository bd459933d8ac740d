/-- a field reference: entry idx of the pool of class 'own' is field k of class number ci; fin: final; ty: its type -/
def x_F (own : String) (idx ci k : Nat) (fin : Bool) (ty : FieldType) : Prop := ∃ (C : String) (T : u_T), vwCl[ci]? = some (C, T, xNF ci) ∧ k < xNF ci ∧ (∀ w ∈ u_ws C T (xNF ci), w ∈ xGW) ∧
  Cond.fieldLink own idx C (T k).2.1 (T k).2.2.1 ∈ xGW ∧ (T k).1 = C ∧ (∃ ty0 : Nat → FieldType, (∀ j, j < xNF ci → parseFieldDescriptor (T j).2.2.1 = some (ty0 j)) ∧ (∀ a, a < xNF ci → ∀ b, b < xNF ci → a ≠ b → (T a).2.1 ≠ (T b).2.1)) ∧
  (T k).2.2.2 = fin ∧ parseFieldDescriptor (T k).2.2.1 = some ty ∧ (fin = true → C = own)
theorem x_W_obj {G : xG} {h : xH} {a ci : Nat} (hT : (xTY a).1 = ci) (hc : ci < 100) (ha : 1 ≤ a ∧ a < h.1) : (x_W G h)[a - 1]? = some (x_ad G a, .inr (ci, x_fs G h.2.1 h.2.2 ci a)) := by
  rw [x_W_get ha.1 ha.2]
  unfold x_E
  rw [hT, if_pos hc]
theorem x_W_ints {G : xG} {h : xH} {a kd n : Nat} (hT : xTY a = (kd, n)) (h1 : ¬ kd < 100) (h2 : kd < 102) (ha : 1 ≤ a ∧ a < h.1) : (x_W G h)[a - 1]? = some (x_ad G a, .inl (g_A G kd, n, .inl (h.2.1 a))) := by
  rw [x_W_get ha.1 ha.2]
  unfold x_E
  rw [hT, if_neg h1, if_pos h2]
theorem x_W_refs {G : xG} {h : xH} {a kd n : Nat} (hT : xTY a = (kd, n)) (h1 : ¬ kd < 102) (ha : 1 ≤ a ∧ a < h.1) : (x_W G h)[a - 1]? = some (x_ad G a, .inl (g_A G kd, n, .inr (.inr (.inr (.inr (fun j => (h.2.2 a j).map (x_ad G))))))) := by
  rw [x_W_get ha.1 ha.2]
  unfold x_E
  rw [hT, if_neg (by omega), if_neg h1]
theorem x_fs_get {G : xG} {I : Nat → Nat → Int32} {P : Nat → Nat → Option Nat} {c a k : Nat} (hk : k < xNF c) : (x_fs G I P c a)[k]? = some (if xRS c k = true then va_rf ((P a k).map (x_ad G)) else .int (I a k)) := by
  unfold x_fs
  rw [List.getElem?_map, List.getElem?_range hk]
  rfl
theorem x_fs_len {G : xG} {I : Nat → Nat → Int32} {P : Nat → Nat → Option Nat} {c a : Nat} : (x_fs G I P c a).length = xNF c := by
  unfold x_fs
  rw [List.length_map, List.length_range]
theorem x_fs_setI {G : xG} {I : Nat → Nat → Int32} {P : Nat → Nat → Option Nat} {c a k : Nat} {v : Int32} (hr : xRS c k = false) : x_fs G (x_up I a k v) P c a = (x_fs G I P c a).set k (.int v) := by
  unfold x_fs
  rw [x_map_set]
  apply List.map_congr_left
  intro i _
  by_cases hi : i = k
  · subst hi
    rw [if_pos rfl, hr]
    simp [x_up, upd]
  · rw [if_neg hi]
    simp [x_up, upd, hi]
theorem x_fs_setP {G : xG} {I : Nat → Nat → Int32} {P : Nat → Nat → Option Nat} {c a k : Nat} {v : Option Nat} (hr : xRS c k = true) : x_fs G I (x_upP P a k v) c a = (x_fs G I P c a).set k (va_rf (v.map (x_ad G))) := by
  unfold x_fs
  rw [x_map_set]
  apply List.map_congr_left
  intro i _
  by_cases hi : i = k
  · subst hi
    rw [if_pos rfl, hr]
    simp [x_upP, va_up]
  · rw [if_neg hi]
    simp [x_upP, va_up, hi]
theorem x_E_up {G : xG} {I : Nat → Nat → Int32} {P : Nat → Nat → Option Nat} {a k : Nat} {v : Int32} (j : Nat) (hj : j ≠ a) : x_E G (x_up I a k v) P j = x_E G I P j := x_E_other (by unfold x_up; rw [if_neg hj]) rfl
theorem x_E_upP {G : xG} {I : Nat → Nat → Int32} {P : Nat → Nat → Option Nat} {a k : Nat} {v : Option Nat} (j : Nat) (hj : j ≠ a) : x_E G I (x_upP P a k v) j = x_E G I P j := x_E_other rfl (by unfold x_upP; rw [if_neg hj])
theorem x_rf (G : xG) (o : Option Nat) : x_v G (va_rf o) = va_rf (o.map (x_ad G)) := by cases o <;> rfl
theorem x_bit {v : Int32} (h : v = 0 ∨ v = 1) : narrow .boolean (.int v) = .int v ∧ fits .boolean (.int v) = true := by
  rcases h with rfl | rfl <;> exact ⟨by decide +kernel, by decide +kernel⟩
theorem x_z_row {I : Nat → Nat → Int32} {a b : Nat} (h : b ≠ a) : x_z I a b = I b := by
  unfold x_z
  rw [if_neg h]
theorem x_n_row {P : Nat → Nat → Option Nat} {a b : Nat} (h : b ≠ a) : x_n P a b = P b := by
  unfold x_n
  rw [if_neg h]
section xheapW
variable {G : xG} {M : xM} {p : Program} {e : Env} {R : Room} {s : State} {m : MethodId} {args : Array Value} {below : List Frame} {meth : Method} {c : Code} {H : Heap} {locs : List Loc} {cells slots : Nat} {ls : Array Slot} {Q : State → Prop} {pc : Nat} {rest : List Value} {h : xH}
theorem x_putW (hC : x_C G M p R s m args meth c) (hS : x_S G h s H locs) {idx ci k a : Nat} {fin : Bool} {ty : FieldType} (hf : x_F M.1.cls idx ci k fin ty) (hfin : fin = true → M.1.name = "<init>") (hT : (xTY a).1 = ci) (hc0 : ci < 100) (ha : 1 ≤ a ∧ a < h.1)
    {v : Value} (hn : narrow ty v = v) (hfit : fits ty v = true) (hd : decode M.2.1 pc = .ok (.putfield idx, 3)) {h' : xH} (hz : h'.1 = h.1) (ho : ∀ j, j ≠ a → x_E G h'.2.1 h'.2.2 j = x_E G h.2.1 h.2.2 j) (hv : x_fs G h'.2.1 h'.2.2 ci a = (x_fs G h.2.1 h.2.2 ci a).set k v)
    (kk : ∀ (H' : Heap) (locs' : List Loc), x_S G h' s H' locs' → W p (g_l G) e R s m args below meth c H' locs' cells slots Q (F0 m (pc + 3) ls rest)) :
    W p (g_l G) e R s m args below meth c H locs cells slots Q (F0 m pc ls (v :: .ref (x_ad G a) :: rest)) := by
  obtain ⟨C, T, hc, hk, hin, hlk, hT1, ⟨ty0, hty, hnm⟩, hfn, hpd, hfo⟩ := hf
  have hts := hC.ws
  have hap := va_apart (own := M.1.cls) hts hin ty0 hty hnm hC.K hc
  have he := x_W_obj (G := G) hT hc0 ha
  obtain ⟨r, h1, cell, q1, q2, q3, q4⟩ := hS.1 (a - 1) _ he
  have hr : r = (C, T, xNF ci) := Option.some.inj (h1.symm.trans hc)
  subst hr
  obtain ⟨hSl, hfc, kC, hkC, hkind⟩ := hC.K.1 ci _ hc
  obtain ⟨cf, kf, fi, f, hi, hsl⟩ := hSl k hk
  have hlay := hts _ (hin _ (u_in_lay hk))
  unfold u_lay at hlay
  have hst := (u_facts hfc hkC (u_lays hts hin hk) hi).1
  have hi2 : s.fieldFound? C (T k).2.1 (T k).2.2.1 = some (cf, kf, fi, f) := by rw [← hT1]; exact hi
  have done : ∀ H' : Heap, H'[x_ad G a]? = some (cell.setSlot f.slot v) → H'.size = H.size → (∀ q, q ≠ x_ad G a → H'[q]? = H[q]?) → W p (g_l G) e R s m args below meth c H' (locs ++ [⟨x_ad G a, f.slot⟩]) cells slots Q (F0 m (pc + 3) ls rest) := by
    intro H' e1 e2 e3
    rw [hsl] at e1 ⊢
    refine kk H' _ ⟨?_, hS.2.1.put e2 e3 ((x_W_D G h).2 (a - 1) _ he), by rw [e2, hz]; exact hS.2.2⟩
    have hw := x_W_set (G := G) (sz := h.1) (I := h.2.1) (P := h.2.2) (I' := h'.2.1) (P' := h'.2.2) ha.1 ha.2 ho
    have hE : x_E G h'.2.1 h'.2.2 a = .inr (ci, x_fs G h'.2.1 h'.2.2 ci a) := by
      unfold x_E
      rw [hT, if_pos hc0]
    have hw2 : x_W G h' = (x_W G h).set (a - 1) (x_ad G a, .inr (ci, (x_fs G h.2.1 h.2.2 ci a).set k v)) := by
      rw [← hv, ← hE]
      have e5 : h' = (h.1, h'.2.1, h'.2.2) := by rw [← hz]
      rw [e5]
      exact hw.symm
    rw [hw2]
    exact hS.1.set (x_W_D G h) he ⟨_, hc, t_OB.to (V := updV (vp_V (x_fs G h.2.1 h.2.2 ci a)) k v) ⟨_, e1, q2, q3, t_set q4 hap hk v⟩ (fun j _ => vp_updV_set (by rw [x_fs_len]; exact hk) v j)⟩ e3
  cases fin with
  | false =>
    rw [if_neg (by rw [hfn]; decide)] at hlay
    have h6 := u_store hfc hkC hkind hlay hi hpd hn hfit
    exact W.putK hC.1 hC.2.1 (f := f) ⟨hC.own, hts _ hlk, ⟨_, _, _, hi2⟩, hst⟩ (by rw [q2]; exact h6) q1 q3 (by rw [hsl]; exact k2_hasslot (q4 k hk)) rfl rfl hd done
  | true =>
    rw [if_pos hfn] at hlay
    have hcf : m.cls = cf := by
      obtain ⟨_, _, c', _, _, _, -, -, hf', -, -, -, hown2, -⟩ := Cond.laysFinal_spec hlay
      have e1 : c' = cf := by have := hi.symm.trans hf'; simp at this; exact this.1.symm
      rw [hT1, hfo rfl] at hown2
      rw [← e1]; exact Option.some.inj (hC.own.symm.trans hown2)
    have h6 := u_fits hfc hkC hkind (Or.inr hlay) hi hpd hn hfit
    exact W.putFinK hC.1 hC.2.1 hC.own (hts _ hlk) hi2 hst hcf (hC.ini (hfin rfl)) (by rw [q2]; exact h6) q1 q3 (by rw [hsl]; exact k2_hasslot (q4 k hk)) rfl rfl hd done
/-- a cell of an array is set -/
theorem x_S.arr {h' : xH} {a k : Nat} (hS : x_S G h s H locs) {E0 : va_E} (he : (x_W G h)[a - 1]? = some (x_ad G a, E0)) (ha : 1 ≤ a ∧ a < h.1) (hz : h'.1 = h.1) (ho : ∀ j, j ≠ a → x_E G h'.2.1 h'.2.2 j = x_E G h.2.1 h.2.2 j)
    {H' : Heap} (e1 : va_at (g_D G) vwCl (x_ad G a, x_E G h'.2.1 h'.2.2 a) H') (e2 : H'.size = H.size) (e3 : ∀ q, q ≠ x_ad G a → H'[q]? = H[q]?) : x_S G h' s H' (locs ++ [⟨x_ad G a, k⟩]) := by
  refine ⟨?_, hS.2.1.put e2 e3 ((x_W_D G h).2 (a - 1) _ he), by rw [e2, hz]; exact hS.2.2⟩
  have hw := x_W_set (G := G) (sz := h.1) (I := h.2.1) (P := h.2.2) (I' := h'.2.1) (P' := h'.2.2) ha.1 ha.2 ho
  have e5 : h' = (h.1, h'.2.1, h'.2.2) := by rw [← hz]
  rw [e5, ← hw]
  exact hS.1.set (x_W_D G h) he e1 e3
/-- a new cell -/
theorem x_S.push {h' : xH} (hC : x_C G M p R s m args meth c) (hS : x_S G h s H locs) (h1 : 1 ≤ h.1) (hz : h'.1 = h.1 + 1) (ho : ∀ j, j < h.1 → x_E G h'.2.1 h'.2.2 j = x_E G h.2.1 h.2.2 j)
    {H' : Heap} (e1 : va_at (g_D G) vwCl (g_B G + h.1, x_E G h'.2.1 h'.2.2 h.1) H') (e2 : H'.size = H.size + 1) (e3 : ∀ q, q < H.size → H'[q]? = H[q]?) : x_S G h' s H' locs := by
  have hP := hS.1
  have hk : ∀ (k : Nat) (x : Nat × va_E), (x_W G h)[k]? = some x → H'[x.1]? = H[x.1]? := fun k x hx => e3 x.1 ((hP k x hx).lt)
  refine ⟨?_, ⟨Nat.le_trans hS.2.1.1 (by omega), fun x q1 q2 => (e3 x (Nat.lt_of_lt_of_le q1 hS.2.1.1)).trans (hS.2.1.2.1 x q1 q2), hS.2.1.2.2⟩, by rw [e2, hS.2.2, hz]; omega⟩
  have hw := x_W_push (G := G) (sz := h.1) (I := h.2.1) (P := h.2.2) (I' := h'.2.1) (P' := h'.2.2) h1 ho
  have e5 : h' = (h.1 + 1, h'.2.1, h'.2.2) := by rw [← hz]
  rw [e5, ← hw]
  refine (hP.kept hk).app (fun k x hx => ?_)
  have hz : k < 1 := (List.getElem?_eq_some_iff.mp hx).1
  rw [show k = 0 by omega] at hx
  cases hx
  exact e1
end xheapW
section xheap
variable {G : xG} {M : xM} {pc : Nat} {lv : List (Nat × Value)} {st : List Value} {h : xH} {bc bs : Nat} {post : Option Value → xH → Prop}
theorem xp_getI {idx ci k a : Nat} {fin : Bool} {ty : FieldType} (hd : decode M.2.1 pc = .ok (.getfield idx, 3)) (hf : x_F M.1.cls idx ci k fin ty) (hT : (xTY a).1 = ci) (hc0 : ci < 100) (hr : xRS ci k = false) (ha : 1 ≤ a ∧ a < h.1)
    (kk : xp G M (pc + 3) lv (.int (h.2.1 a k) :: st) h bc bs post) : xp G M pc lv (.ref a :: st) h bc bs post :=
  fun p e R s m args below meth c H locs cells slots ls Q hC hS hl hb hQ => by
    obtain ⟨C, T, hc, hk, hin, hlk, hT1, -⟩ := hf
    exact va_get (D := g_D G) (v := .int (h.2.1 a k)) hC.1 hC.2.1 hC.ws hin hC.own hC.K hS.1 (a - 1) (x_W_obj hT hc0 ha) hc k hk (hC.ws _ hlk) (fun x hx => by rw [hT1] at hx; exact hx) (by rw [x_fs_get hk, hr]; rfl) hd (kk p e R s m args below meth c H locs cells slots ls Q hC hS hl hb hQ)
theorem xp_getR {idx ci k a b : Nat} {fin : Bool} {ty : FieldType} (hd : decode M.2.1 pc = .ok (.getfield idx, 3)) (hf : x_F M.1.cls idx ci k fin ty) (hT : (xTY a).1 = ci) (hc0 : ci < 100) (hr : xRS ci k = true) (ha : 1 ≤ a ∧ a < h.1) (hp : h.2.2 a k = some b)
    (kk : xp G M (pc + 3) lv (.ref b :: st) h bc bs post) : xp G M pc lv (.ref a :: st) h bc bs post :=
  fun p e R s m args below meth c H locs cells slots ls Q hC hS hl hb hQ => by
    obtain ⟨C, T, hc, hk, hin, hlk, hT1, -⟩ := hf
    exact va_get (D := g_D G) (v := .ref (x_ad G b)) hC.1 hC.2.1 hC.ws hin hC.own hC.K hS.1 (a - 1) (x_W_obj hT hc0 ha) hc k hk (hC.ws _ hlk) (fun x hx => by rw [hT1] at hx; exact hx) (by rw [x_fs_get hk, hr, hp]; rfl) hd (kk p e R s m args below meth c H locs cells slots ls Q hC hS hl hb hQ)
theorem xp_putI {idx ci k a : Nat} {fin : Bool} {v : Int32} (hd : decode M.2.1 pc = .ok (.putfield idx, 3)) (hf : x_F M.1.cls idx ci k fin .int) (hfin : fin = true → M.1.name = "<init>") (hT : (xTY a).1 = ci) (hc0 : ci < 100) (hr : xRS ci k = false) (ha : 1 ≤ a ∧ a < h.1)
    (kk : xp G M (pc + 3) lv st (h.1, x_up h.2.1 a k v, h.2.2) bc bs post) : xp G M pc lv (.int v :: .ref a :: st) h bc bs post :=
  fun p e R s m args below meth c H locs cells slots ls Q hC hS hl hb hQ =>
    x_putW (v := .int v) (h' := (h.1, x_up h.2.1 a k v, h.2.2)) hC hS hf hfin hT hc0 ha rfl rfl hd rfl (fun j hj => x_E_up j hj) (x_fs_setI hr) (fun H locs hS => kk p e R s m args below meth c H locs cells slots ls Q hC hS hl hb hQ)
theorem xp_putZ {idx ci k a : Nat} {fin : Bool} {v : Int32} (hd : decode M.2.1 pc = .ok (.putfield idx, 3)) (hf : x_F M.1.cls idx ci k fin .boolean) (hv : v = 0 ∨ v = 1) (hfin : fin = true → M.1.name = "<init>") (hT : (xTY a).1 = ci) (hc0 : ci < 100) (hr : xRS ci k = false) (ha : 1 ≤ a ∧ a < h.1)
    (kk : xp G M (pc + 3) lv st (h.1, x_up h.2.1 a k v, h.2.2) bc bs post) : xp G M pc lv (.int v :: .ref a :: st) h bc bs post :=
  fun p e R s m args below meth c H locs cells slots ls Q hC hS hl hb hQ =>
    x_putW (v := .int v) (h' := (h.1, x_up h.2.1 a k v, h.2.2)) hC hS hf hfin hT hc0 ha (x_bit hv).1 (x_bit hv).2 hd rfl (fun j hj => x_E_up j hj) (x_fs_setI hr) (fun H locs hS => kk p e R s m args below meth c H locs cells slots ls Q hC hS hl hb hQ)
theorem xp_putR {idx ci k a b : Nat} {fin : Bool} {ty : FieldType} (hd : decode M.2.1 pc = .ok (.putfield idx, 3)) (hf : x_F M.1.cls idx ci k fin ty) (hty : (∃ n, ty = .object n) ∨ ∃ t, ty = .array t) (hfin : fin = true → M.1.name = "<init>") (hT : (xTY a).1 = ci) (hc0 : ci < 100) (hr : xRS ci k = true) (ha : 1 ≤ a ∧ a < h.1)
    (kk : xp G M (pc + 3) lv st (h.1, h.2.1, x_upP h.2.2 a k (some b)) bc bs post) : xp G M pc lv (.ref b :: .ref a :: st) h bc bs post :=
  fun p e R s m args below meth c H locs cells slots ls Q hC hS hl hb hQ =>
    x_putW (v := .ref (x_ad G b)) (h' := (h.1, h.2.1, x_upP h.2.2 a k (some b))) hC hS hf hfin hT hc0 ha (by rcases hty with ⟨n, rfl⟩ | ⟨t, rfl⟩ <;> rfl) (by rcases hty with ⟨n, rfl⟩ | ⟨t, rfl⟩ <;> rfl) hd rfl (fun j hj => x_E_upP j hj) (x_fs_setP hr) (fun H locs hS => kk p e R s m args below meth c H locs cells slots ls Q hC hS hl hb hQ)
/-! arrays -/
theorem xp_iaload {a n : Nat} {i : Int32} (hd : decode M.2.1 pc = .ok (.iaload, 1)) (hT : xTY a = (100, n)) (ha : 1 ≤ a ∧ a < h.1) (hi : vp_in i n)
    (kk : xp G M (pc + 1) lv (.int (h.2.1 a i.toNatClampNeg) :: st) h bc bs post) : xp G M pc lv (.int i :: .ref a :: st) h bc bs post :=
  fun p e R s m args below meth c H locs cells slots ls Q hC hS hl hb hQ =>
    va_iald hC.1 hC.2.1 hC.K hS.1 (a - 1) 0 (x_W_ints hT (by decide) (by decide) ha) rfl hi hd (kk p e R s m args below meth c H locs cells slots ls Q hC hS hl hb hQ)
theorem xp_baload {a n : Nat} {i : Int32} (hd : decode M.2.1 pc = .ok (.baload, 1)) (hT : xTY a = (101, n)) (ha : 1 ≤ a ∧ a < h.1) (hi : vp_in i n)
    (kk : xp G M (pc + 1) lv (.int (h.2.1 a i.toNatClampNeg) :: st) h bc bs post) : xp G M pc lv (.int i :: .ref a :: st) h bc bs post :=
  fun p e R s m args below meth c H locs cells slots ls Q hC hS hl hb hQ =>
    va_zald hC.1 hC.2.1 hC.K hS.1 (a - 1) 1 (x_W_ints hT (by decide) (by decide) ha) rfl hi hd (kk p e R s m args below meth c H locs cells slots ls Q hC hS hl hb hQ)
theorem x_tys_get {G : xG} {kd : Nat} (h1 : 102 ≤ kd) (h2 : kd < 105) : (x_tys G)[kd - 100]? = some (g_A G kd, .object (xAC kd)) := by
  rcases (show kd = 102 ∨ kd = 103 ∨ kd = 104 by omega) with rfl | rfl | rfl <;> rfl
theorem xp_aaload {a n kd b : Nat} {i : Int32} (hd : decode M.2.1 pc = .ok (.aaload, 1)) (hT : xTY a = (kd, n)) (h1 : 102 ≤ kd) (h2 : kd < 105) (ha : 1 ≤ a ∧ a < h.1) (hi : vp_in i n) (hp : h.2.2 a i.toNatClampNeg = some b)
    (kk : xp G M (pc + 1) lv (.ref b :: st) h bc bs post) : xp G M pc lv (.int i :: .ref a :: st) h bc bs post :=
  fun p e R s m args below meth c H locs cells slots ls Q hC hS hl hb hQ =>
    va_aldq hC.1 hC.2.1 hC.K hS.1 (a - 1) (kd - 100) (x_W_refs hT (by omega) ha) (x_tys_get h1 h2) hi hd (by
      rw [hp]
      exact kk p e R s m args below meth c H locs cells slots ls Q hC hS hl hb hQ)
theorem xp_alen {a n kd : Nat} (hd : decode M.2.1 pc = .ok (.arraylength, 1)) (hT : xTY a = (kd, n)) (h1 : 100 ≤ kd) (h2 : kd < 105) (ha : 1 ≤ a ∧ a < h.1)
    (kk : xp G M (pc + 1) lv (.int (Int32.ofNat n) :: st) h bc bs post) : xp G M pc lv (.ref a :: st) h bc bs post :=
  fun p e R s m args below meth c H locs cells slots ls Q hC hS hl hb hQ => by
    have kk := kk p e R s m args below meth c H locs cells slots ls Q hC hS hl hb hQ
    rcases (show kd = 100 ∨ kd = 101 ∨ (102 ≤ kd ∧ kd < 105) by omega) with rfl | rfl | hk
    · exact va_alen hC.1 hC.2.1 hC.K hS.1 (a - 1) 0 (x_W_ints hT (by decide) (by decide) ha) rfl rfl hd kk
    · exact va_alen hC.1 hC.2.1 hC.K hS.1 (a - 1) 1 (x_W_ints hT (by decide) (by decide) ha) rfl rfl hd kk
    · exact va_alen hC.1 hC.2.1 hC.K hS.1 (a - 1) (kd - 100) (x_W_refs hT (by omega) ha) (x_tys_get hk.1 hk.2) rfl hd kk
theorem xp_sload {i : Int32} (hd : decode M.2.1 pc = .ok (.iaload, 1)) (hi : vp_in i (g_L G)) (kk : xp G M (pc + 1) lv (.int (g_x G i.toNatClampNeg) :: st) h bc bs post) : xp G M pc lv (.int i :: .ref 0 :: st) h bc bs post :=
  fun p e R s m args below meth c H locs cells slots ls Q hC hS hl hb hQ =>
    va_sld (b := g_b G) hC.1 hC.2.1 hC.X (by have := hC.b; omega) (by have := hC.b; show ¬ (g_B G + 1 ≤ g_b G); omega) hS.2.1 hi hd (kk p e R s m args below meth c H locs cells slots ls Q hC hS hl hb hQ)
theorem xp_slen (hd : decode M.2.1 pc = .ok (.arraylength, 1)) (kk : xp G M (pc + 1) lv (.int (Int32.ofNat (g_L G)) :: st) h bc bs post) : xp G M pc lv (.ref 0 :: st) h bc bs post :=
  fun p e R s m args below meth c H locs cells slots ls Q hC hS hl hb hQ =>
    va_slen (b := g_b G) hC.1 hC.2.1 hC.X (by have := hC.b; omega) (by have := hC.b; show ¬ (g_B G + 1 ≤ g_b G); omega) hS.2.1 hd (kk p e R s m args below meth c H locs cells slots ls Q hC hS hl hb hQ)
theorem x_E_ints {G : xG} {I : Nat → Nat → Int32} {P : Nat → Nat → Option Nat} {a kd n : Nat} (hT : xTY a = (kd, n)) (h1 : ¬ kd < 100) (h2 : kd < 102) : x_E G I P a = .inl (g_A G kd, n, .inl (I a)) := by
  unfold x_E
  rw [hT, if_neg h1, if_pos h2]
theorem x_E_refs {G : xG} {I : Nat → Nat → Int32} {P : Nat → Nat → Option Nat} {a kd n : Nat} (hT : xTY a = (kd, n)) (h1 : ¬ kd < 102) : x_E G I P a = .inl (g_A G kd, n, .inr (.inr (.inr (.inr (fun j => (P a j).map (x_ad G)))))) := by
  unfold x_E
  rw [hT, if_neg (by omega), if_neg h1]
theorem x_cell_up {cA : ClassId} {n k : Nat} {f g : Nat → Int32} {x : Int32} (hg : g = upd f k x) : (vp_cell cA (n, .inl f)).setSlot k (.int x) = vp_cell cA (n, .inl g) := by
  subst hg
  rw [vp_cell_i, vp_cell_i, arrV_store]
  congr 1
  funext q
  by_cases hq : q = k
  · subst hq
    simp [updV, upd]
  · simp [updV, upd, hq]
theorem x_up_at (I : Nat → Nat → Int32) (a k : Nat) (v : Int32) : x_up I a k v a = upd (I a) k v := by
  unfold x_up
  rw [if_pos rfl]
theorem xp_iastore {a n : Nat} {i x : Int32} (hd : decode M.2.1 pc = .ok (.iastore, 1)) (hT : xTY a = (100, n)) (ha : 1 ≤ a ∧ a < h.1) (hi : vp_in i n)
    (kk : xp G M (pc + 1) lv st (h.1, x_up h.2.1 a i.toNatClampNeg x, h.2.2) bc bs post) : xp G M pc lv (.int x :: .int i :: .ref a :: st) h bc bs post :=
  fun p e R s m args below meth c H locs cells slots ls Q hC hS hl hb hQ => by
    have he := x_W_ints (G := G) hT (by decide) (by decide) ha
    refine W.iast hC.1 hC.2.1 (hS.1 (a - 1) _ he) ((hC.K.2 0 _ rfl).1 n (fun j => .int (h.2.1 a j))) (fun q => by cases q) (by show ¬ (i < 0 ∨ (arrV _ _ _).slots.size ≤ _); rw [arrV_size]; exact hi) rfl rfl hd fun H1 e1 z oq => ?_
    refine kk p e R s m args below meth c H1 _ cells slots ls Q hC (hS.arr (h' := (h.1, x_up h.2.1 a i.toNatClampNeg x, h.2.2)) he ha rfl (fun j hj => x_E_up j hj) ?_ z oq) hl hb hQ
    rw [x_E_ints hT (by decide) (by decide)]
    show H1[x_ad G a]? = some _
    rw [e1, x_cell_up (x_up_at _ _ _ _)]
theorem xp_bastore {a n : Nat} {i x : Int32} (hd : decode M.2.1 pc = .ok (.bastore, 1)) (hT : xTY a = (101, n)) (ha : 1 ≤ a ∧ a < h.1) (hi : vp_in i n) (hx : x = 0 ∨ x = 1)
    (kk : xp G M (pc + 1) lv st (h.1, x_up h.2.1 a i.toNatClampNeg x, h.2.2) bc bs post) : xp G M pc lv (.int x :: .int i :: .ref a :: st) h bc bs post :=
  fun p e R s m args below meth c H locs cells slots ls Q hC hS hl hb hQ => by
    have he := x_W_ints (G := G) hT (by decide) (by decide) ha
    refine W.zast hC.1 hC.2.1 (hS.1 (a - 1) _ he) ((hC.K.2 1 _ rfl).1 n (fun j => .int (h.2.1 a j))) (fun q => by cases q) (by show ¬ (i < 0 ∨ (arrV _ _ _).slots.size ≤ _); rw [arrV_size]; exact hi) rfl rfl hd fun H1 e1 z oq => ?_
    refine kk p e R s m args below meth c H1 _ cells slots ls Q hC (hS.arr (h' := (h.1, x_up h.2.1 a i.toNatClampNeg x, h.2.2)) he ha rfl (fun j hj => x_E_up j hj) ?_ z oq) hl hb hQ
    rw [x_E_ints hT (by decide) (by decide)]
    show H1[x_ad G a]? = some _
    rw [e1, (x_bit hx).1, x_cell_up (x_up_at _ _ _ _)]
theorem xp_aastore {a n kd b ci : Nat} {i : Int32} (hd : decode M.2.1 pc = .ok (.aastore, 1)) (hT : xTY a = (kd, n)) (h1 : 102 ≤ kd) (h2 : kd < 105) (ha : 1 ≤ a ∧ a < h.1) (hi : vp_in i n) (hTb : (xTY b).1 = ci) (hc0 : ci < 100) (hb0 : 1 ≤ b ∧ b < h.1) {T : u_T} {N : Nat} (hcl : vwCl[ci]? = some (xAC kd, T, N))
    (kk : xp G M (pc + 1) lv st (h.1, h.2.1, x_upP h.2.2 a i.toNatClampNeg (some b)) bc bs post) : xp G M pc lv (.ref b :: .int i :: .ref a :: st) h bc bs post :=
  fun p e R s m args below meth c H locs cells slots ls Q hC hS hl hb hQ => by
    have he := x_W_refs (G := G) hT (by omega) ha
    have hv := x_W_obj (G := G) hTb hc0 hb0
    have hlt : i.toNatClampNeg < n := Nat.not_le.mp fun q => hi (Or.inr q)
    have h0 : ¬ i < 0 := fun q => hi (Or.inl q)
    obtain ⟨r', hr', cellV, g1, g2, g3, -⟩ := hS.1 (b - 1) _ hv
    have hcls := (hC.K.1 ci _ hcl).2
    obtain ⟨kA, comp, k1, k2, k3, -⟩ := (hC.K.2 (kd - 100) _ (x_tys_get h1 h2)).2
    have hcomp : comp = (g_D G).1 ci := Option.some.inj (k3.symm.trans hcls.1)
    subst hcomp
    obtain ⟨kC, hkC, -⟩ := hcls.2
    refine W.aast hC.1 hC.2.1 (hS.1 (a - 1) _ he) (fun q h => by cases h) (fun h => by cases h) k1 k2 rfl hkC ⟨h0, by show _ < (arrV _ _ _).slots.size; rw [arrV_size]; exact hlt⟩ g1 (fun q h => by rw [g3] at h; cases h) (by rw [g2]; exact hkC) (by rw [g2]; exact va_assign hcls) rfl rfl hd fun H1 e1 z oq => ?_
    refine kk p e R s m args below meth c H1 _ cells slots ls Q hC (hS.arr (h' := (h.1, h.2.1, x_upP h.2.2 a i.toNatClampNeg (some b))) he ha rfl (fun j hj => x_E_upP j hj) ?_ z oq) hl hb hQ
    rw [x_E_refs hT (by omega)]
    show H1[x_ad G a]? = some _
    rw [e1, vp_cell_q, vp_cell_q, arrV_store]
    congr 2
    funext q
    by_cases hq : q = i.toNatClampNeg
    · subst hq
      simp [updV, va_up, x_upP, va_rf]
    · simp [updV, va_up, x_upP, hq]
/-! new cells -/
theorem xp_newarray {atype : ArrayType} {ty : FieldType} {N kd t0 : Nat} {n : Int32} (hd : decode M.2.1 pc = .ok (.newarray atype, 2)) (hty : newarray.typeOf atype = ty) (hk : (kd = 100 ∧ ty = .int ∧ t0 = 0) ∨ (kd = 101 ∧ ty = .boolean ∧ t0 = 1)) (hw : Cond.arrayClass ty ∈ xGW)
    (h0 : ¬ n < 0) (hN : n.toNatClampNeg = N) (hN2 : N ≤ 1000) (hT : xTY h.1 = (kd, N)) (h1 : 1 ≤ h.1)
    (kk : xp G M (pc + 2) lv (.ref h.1 :: st) (h.1 + 1, x_z h.2.1 h.1, h.2.2) bc bs post) : xp G M pc lv (.int n :: st) h (bc + 1) (bs + N) post :=
  fun p e R s m args below meth c H locs cells slots ls Q hC hS hl hb hQ => by
    subst hty
    have hcb : componentBytes (newarray.typeOf atype) ≤ 8 := by cases atype <;> decide
    have hmul : N * componentBytes (newarray.typeOf atype) ≤ N * 8 := Nat.mul_le_mul_left _ hcb
    refine va_newaK hC.1 hC.2.1 (hC.ws _ hw) rfl hd rfl h0 hN (by omega) (by omega) (by omega) rfl fun H1 cA e1 z1 o1 hAr hNm => ?_
    have hcA : cA = g_A G kd := by
      rcases hk with ⟨rfl, h5, -⟩ | ⟨rfl, h5, -⟩
      · have h6 := (hC.K.2 0 _ rfl).2
        rw [h5] at hNm
        exact Option.some.inj (hNm.symm.trans h6)
      · have h6 := (hC.K.2 1 _ rfl).2
        rw [h5] at hNm
        exact Option.some.inj (hNm.symm.trans h6)
    have hdv : defaultValue (newarray.typeOf atype) = .int 0 := by rcases hk with ⟨-, h5, -⟩ | ⟨-, h5, -⟩ <;> rw [h5] <;> rfl
    have hst : Value.ref H.size = x_v G (.ref h.1) := by
      show Value.ref H.size = Value.ref (x_ad G h.1)
      rw [hS.2.2, x_ad_pos h1]
    rw [hst]
    refine kk p e R s m args below meth c H1 locs (cells + 1) (slots + N) ls Q hC (hS.push (h' := (h.1 + 1, x_z h.2.1 h.1, h.2.2)) hC h1 rfl (fun j hj => x_E_other (x_z_row (Nat.ne_of_lt hj)) rfl) ?_ z1 o1) hl ⟨by omega, by omega⟩ hQ
    rw [x_E_ints hT (by omega) (by omega)]
    show H1[g_B G + h.1]? = some (vp_cell _ _)
    rw [← hS.2.2, e1, hdv, vp_cell_i, hcA]
    congr 1
    congr 1
    funext j
    simp [x_z]
theorem xp_new {idx ci : Nat} {C : String} {T : u_T} (hd : decode M.2.1 pc = .ok (.new idx, 3)) (hc : vwCl[ci]? = some (C, T, xNF ci)) (hin : ∀ w ∈ u_ws C T (xNF ci), w ∈ xGW) (ty : Nat → FieldType) (hty : ∀ j, j < xNF ci → parseFieldDescriptor (T j).2.2.1 = some (ty j))
    (hdf : ∀ j, j < xNF ci → defaultValue (ty j) = if xRS ci j = true then .null else .int 0) (hcl : Cond.classLink M.1.cls idx C ∈ xGW) (hinst : Cond.instantiable C (xNF ci) ∈ xGW) (hini : Cond.initialized C ∈ xGW) (hT : (xTY h.1).1 = ci) (hc0 : ci < 100) (h1 : 1 ≤ h.1)
    (kk : xp G M (pc + 3) lv (.ref h.1 :: st) (h.1 + 1, x_z h.2.1 h.1, x_n h.2.2 h.1) bc bs post) : xp G M pc lv st h (bc + 1) (bs + xNF ci) post :=
  fun p e R s m args below meth c H locs cells slots ls Q hC hS hl hb hQ => by
    have hKn := hC.K.1 ci _ hc
    refine W.newcK hC.1 hC.2.1 hC.own (hC.ws _ hcl) (hC.ws _ hinst) (hC.ws _ hini) rfl hd (by omega) (by omega) hKn.2.1 rfl fun H1 kC hkC e1 z1 o1 => ?_
    have hst : Value.ref H.size = x_v G (.ref h.1) := by
      show Value.ref H.size = Value.ref (x_ad G h.1)
      rw [hS.2.2, x_ad_pos h1]
    rw [hst]
    refine kk p e R s m args below meth c H1 locs (cells + 1) (slots + xNF ci) ls Q hC (hS.push (h' := (h.1 + 1, x_z h.2.1 h.1, x_n h.2.2 h.1)) hC h1 rfl (fun j hj => x_E_other (x_z_row (Nat.ne_of_lt hj)) (x_n_row (Nat.ne_of_lt hj))) ?_ z1 o1) hl ⟨by omega, by omega⟩ hQ
    have hE : x_E G (x_z h.2.1 h.1) (x_n h.2.2 h.1) h.1 = .inr (ci, x_fs G (x_z h.2.1 h.1) (x_n h.2.2 h.1) ci h.1) := by
      unfold x_E
      rw [hT, if_pos hc0]
    rw [hE, ← hS.2.2]
    refine ⟨_, hc, (u_born ty hC.ws hin hKn hkC e1 hty).to (fun j hj => ?_)⟩
    rw [hdf j hj]
    show _ = vp_V _ j
    unfold vp_V
    rw [List.getD_eq_getElem?_getD, x_fs_get hj]
    simp only [Option.getD_some, x_z, x_n, if_pos]
    rfl
theorem xp_anewarray {idx N kd : Nat} {n : Int32} (hd : decode M.2.1 pc = .ok (.anewarray idx, 3)) (h2 : 102 ≤ kd) (h3 : kd < 105) (hcl : Cond.classLink M.1.cls idx (xAC kd) ∈ xGW) (hAO : xAC kd ∈ xAO)
    (h0 : ¬ n < 0) (hN : n.toNatClampNeg = N) (hN2 : N ≤ 1000) (hT : xTY h.1 = (kd, N)) (h1 : 1 ≤ h.1)
    (kk : xp G M (pc + 3) lv (.ref h.1 :: st) (h.1 + 1, h.2.1, x_n h.2.2 h.1) bc bs post) : xp G M pc lv (.int n :: st) h (bc + 1) (bs + N) post :=
  fun p e R s m args below meth c H locs cells slots ls Q hC hS hl hb hQ => by
    subst hN
    refine W.anew hC.1 hC.2.1 hC.own (hC.ws _ hcl) (va_AO.use (hC.O.1 _ hAO)) rfl hd rfl h0 (by omega) (by omega) (by omega) fun cA kA comp f1 f2 f3 f4 => ?_
    have hcA : cA = g_A G kd := by
      obtain ⟨-, -, -, -, -, k4⟩ := (hC.K.2 (kd - 100) _ (x_tys_get h2 h3)).2
      exact Option.some.inj (f1.symm.trans k4)
    have hst : Value.ref H.size = x_v G (.ref h.1) := by
      show Value.ref H.size = Value.ref (x_ad G h.1)
      rw [hS.2.2, x_ad_pos h1]
    rw [hst]
    generalize hH1 : H.push ({ cls := cA, slots := Array.replicate n.toNatClampNeg .null, vm := .none } : Cell) = H1
    have z1 : H1.size = H.size + 1 := by rw [← hH1, Array.size_push]
    have e1 : H1[H.size]? = some (arrV cA n.toNatClampNeg (fun _ => .null)) := by rw [← hH1, Array.getElem?_push_size, ← arrV_new]
    have o1 : ∀ q : Nat, q < H.size → H1[q]? = H[q]? := fun q hq => by rw [← hH1, Array.getElem?_push, if_neg (Nat.ne_of_lt hq)]
    refine kk p e R s m args below meth c H1 locs (cells + 1) (slots + n.toNatClampNeg) ls Q hC (hS.push (h' := (h.1 + 1, h.2.1, x_n h.2.2 h.1)) hC h1 rfl (fun j hj => x_E_other rfl (x_n_row (Nat.ne_of_lt hj))) ?_ z1 o1) hl ⟨by omega, by omega⟩ hQ
    rw [x_E_refs hT (by omega)]
    show H1[g_B G + h.1]? = some (vp_cell _ _)
    rw [← hS.2.2, e1, vp_cell_q, hcA]
    congr 1
    congr 1
    funext j
    simp [x_n, va_rf]
end xheap
