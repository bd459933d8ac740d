/-! the pure heap: (next address, int slots, reference slots); address 0 is the script; G: launch, class ids, array class ids, base, script's address, length, contents -/
abbrev xH : Type := Nat × (Nat → Nat → Int32) × (Nat → Nat → Option Nat)
abbrev xG : Type := Launch × va_G × (Nat → ClassId) × Nat × Nat × Nat × (Nat → Int32)
/-- a method: its name, bytes, locals, return type, and its room: frames, locals -/
abbrev xM : Type := MethodName × ByteArray × Nat × Option FieldType × Nat × Nat
def g_l (G : xG) : Launch := G.1
def g_D (G : xG) : va_G := G.2.1
def g_A (G : xG) : Nat → ClassId := G.2.2.1
def g_B (G : xG) : Nat := G.2.2.2.1
def g_b (G : xG) : Nat := G.2.2.2.2.1
def g_L (G : xG) : Nat := G.2.2.2.2.2.1
def g_x (G : xG) : Nat → Int32 := G.2.2.2.2.2.2
def x_ad (G : xG) (k : Nat) : Nat := if k = 0 then g_b G else g_B G + k
def x_v (G : xG) : Value → Value
  | .ref k => .ref (x_ad G k)
  | v => v
def x_q (G : xG) (q : Nat × Value) : Nat × Value := (q.1, x_v G q.2)
theorem x_v_cat (G : xG) (v : Value) : (x_v G v).category = v.category := by cases v <;> rfl
def x_tys (G : xG) : List (ClassId × FieldType) := [(g_A G 100, .int), (g_A G 101, .boolean), (g_A G 102, .object xC_Node), (g_A G 103, .object xC_Request), (g_A G 104, .object xC_Subscription)]
/-- what lies at a pure address -/
def x_fs (G : xG) (I : Nat → Nat → Int32) (P : Nat → Nat → Option Nat) (c k : Nat) : List Value :=
  (List.range (xNF c)).map (fun i => if xRS c i = true then va_rf ((P k i).map (x_ad G)) else .int (I k i))
def x_E (G : xG) (I : Nat → Nat → Int32) (P : Nat → Nat → Option Nat) (k : Nat) : va_E :=
  if (xTY k).1 < 100 then .inr ((xTY k).1, x_fs G I P (xTY k).1 k)
  else if (xTY k).1 < 102 then .inl (g_A G (xTY k).1, (xTY k).2, .inl (I k))
  else .inl (g_A G (xTY k).1, (xTY k).2, .inr (.inr (.inr (.inr (fun j => (P k j).map (x_ad G))))))
def x_W (G : xG) (h : xH) : va_W := (List.range (h.1 - 1)).map (fun i => (g_B G + (i + 1), x_E G h.2.1 h.2.2 (i + 1)))
def x_A (G : xG) : Nat → Prop := fun q => g_B G + 1 ≤ q
theorem x_ad_pos {G : xG} {k : Nat} (h : 1 ≤ k) : x_ad G k = g_B G + k := by
  unfold x_ad
  rw [if_neg (by omega)]
theorem x_W_get {G : xG} {h : xH} {k : Nat} (h1 : 1 ≤ k) (h2 : k < h.1) : (x_W G h)[k - 1]? = some (x_ad G k, x_E G h.2.1 h.2.2 k) := by
  unfold x_W
  rw [List.getElem?_map, List.getElem?_range (by omega)]
  simp only [Option.map_some]
  rw [x_ad_pos h1, show k - 1 + 1 = k by omega]
theorem x_W_len {G : xG} {h : xH} : (x_W G h).length = h.1 - 1 := by
  unfold x_W
  rw [List.length_map, List.length_range]
theorem x_W_inv {G : xG} {h : xH} {i : Nat} {q : Nat × va_E} (hq : (x_W G h)[i]? = some q) : i + 1 < h.1 ∧ q = (g_B G + (i + 1), x_E G h.2.1 h.2.2 (i + 1)) := by
  have hl : i < (x_W G h).length := (List.getElem?_eq_some_iff.mp hq).1
  rw [x_W_len] at hl
  have h1 := x_W_get (G := G) (h := h) (k := i + 1) (by omega) (by omega)
  rw [show i + 1 - 1 = i by omega, hq] at h1
  have h2 := Option.some.inj h1
  rw [x_ad_pos (by omega)] at h2
  exact ⟨by omega, h2⟩
theorem x_W_D (G : xG) (h : xH) : va_D (x_A G) (x_W G h) := by
  refine ⟨fun i j p q hp hq he => ?_, fun k q hk => ?_⟩
  · obtain ⟨-, rfl⟩ := x_W_inv hp
    obtain ⟨-, rfl⟩ := x_W_inv hq
    dsimp only at he
    omega
  · obtain ⟨-, rfl⟩ := x_W_inv hk
    show g_B G + 1 ≤ g_B G + (k + 1)
    omega
theorem x_W_set {G : xG} {sz : Nat} {I I' : Nat → Nat → Int32} {P P' : Nat → Nat → Option Nat} {k : Nat} (h1 : 1 ≤ k) (h2 : k < sz) (ho : ∀ j, j ≠ k → x_E G I' P' j = x_E G I P j) :
    (x_W G (sz, I, P)).set (k - 1) (x_ad G k, x_E G I' P' k) = x_W G (sz, I', P') := by
  apply List.ext_getElem?
  intro i
  rw [List.getElem?_set]
  by_cases hi : k - 1 = i
  · subst hi
    rw [if_pos rfl, if_pos (by rw [x_W_len]; show k - 1 < sz - 1; omega)]
    exact (x_W_get (h := (sz, I', P')) h1 h2).symm
  · rw [if_neg hi]
    by_cases hl : i < sz - 1
    · have a1 := x_W_get (G := G) (h := (sz, I, P)) (k := i + 1) (by omega) (by show i + 1 < sz; omega)
      have a2 := x_W_get (G := G) (h := (sz, I', P')) (k := i + 1) (by omega) (by show i + 1 < sz; omega)
      rw [show i + 1 - 1 = i by omega] at a1 a2
      rw [a1, a2]
      dsimp only
      rw [ho (i + 1) (by omega)]
    · rw [List.getElem?_eq_none (by rw [x_W_len]; show sz - 1 ≤ i; omega), List.getElem?_eq_none (by rw [x_W_len]; show sz - 1 ≤ i; omega)]
theorem x_W_push {G : xG} {sz : Nat} {I I' : Nat → Nat → Int32} {P P' : Nat → Nat → Option Nat} (h1 : 1 ≤ sz) (ho : ∀ j, j < sz → x_E G I' P' j = x_E G I P j) :
    x_W G (sz, I, P) ++ [(g_B G + sz, x_E G I' P' sz)] = x_W G (sz + 1, I', P') := by
  apply List.ext_getElem?
  intro i
  by_cases hl : i < sz - 1
  · rw [List.getElem?_append_left (by rw [x_W_len]; exact hl)]
    have a1 := x_W_get (G := G) (h := (sz, I, P)) (k := i + 1) (by omega) (by show i + 1 < sz; omega)
    have a2 := x_W_get (G := G) (h := (sz + 1, I', P')) (k := i + 1) (by omega) (by show i + 1 < sz + 1; omega)
    rw [show i + 1 - 1 = i by omega] at a1 a2
    rw [a1, a2]
    dsimp only
    rw [ho (i + 1) (by omega)]
  · rw [List.getElem?_append_right (by rw [x_W_len]; show sz - 1 ≤ i; omega), x_W_len]
    by_cases he : i = sz - 1
    · subst he
      have a2 := x_W_get (G := G) (h := (sz + 1, I', P')) (k := sz) h1 (by show sz < sz + 1; omega)
      rw [a2]
      dsimp only
      rw [Nat.sub_self, x_ad_pos h1]
      rfl
    · rw [List.getElem?_eq_none (by simp; omega), List.getElem?_eq_none (by rw [x_W_len]; show sz + 1 - 1 ≤ i; omega)]
/-- one slot changed -/
def x_up (I : Nat → Nat → Int32) (a k : Nat) (v : Int32) : Nat → Nat → Int32 := fun b => if b = a then upd (I a) k v else I b
def x_upP (P : Nat → Nat → Option Nat) (a k : Nat) (v : Option Nat) : Nat → Nat → Option Nat := fun b => if b = a then va_up (P a) k v else P b
/-- a row of zeros, of nulls -/
def x_z (I : Nat → Nat → Int32) (a : Nat) : Nat → Nat → Int32 := fun b => if b = a then (fun _ => 0) else I b
def x_n (P : Nat → Nat → Option Nat) (a : Nat) : Nat → Nat → Option Nat := fun b => if b = a then (fun _ => none) else P b
theorem x_E_other {G : xG} {I I' : Nat → Nat → Int32} {P P' : Nat → Nat → Option Nat} {k : Nat} (h1 : I' k = I k) (h2 : P' k = P k) : x_E G I' P' k = x_E G I P k := by
  unfold x_E x_fs
  rw [h1, h2]
theorem x_map_set {f : Nat → Value} {N k : Nat} {v : Value} : ((List.range N).map f).set k v = (List.range N).map (fun i => if i = k then v else f i) := by
  apply List.ext_getElem?
  intro i
  rw [List.getElem?_set]
  by_cases hi : k = i
  · subst hi
    rw [if_pos rfl]
    by_cases hl : k < N
    · rw [if_pos (by simpa using hl), List.getElem?_map, List.getElem?_range hl]
      simp
    · rw [if_neg (by simpa using hl), List.getElem?_map, List.getElem?_eq_none (by simpa using hl)]
      rfl
  · rw [if_neg hi, List.getElem?_map, List.getElem?_map]
    by_cases hl : i < N
    · rw [List.getElem?_range hl]
      simp only [Option.map_some]
      rw [if_neg (fun e => hi e.symm)]
    · rw [List.getElem?_eq_none (by simpa using hl)]
      rfl
theorem x_up_eq {I : Nat → Nat → Int32} {a k b j : Nat} {v : Int32} (h : b = a ∧ j = k) : x_up I a k v b j = v := by
  obtain ⟨rfl, rfl⟩ := h
  simp [x_up, upd]
theorem x_up_ne {I : Nat → Nat → Int32} {a k b j : Nat} {v : Int32} (h : b ≠ a ∨ j ≠ k) : x_up I a k v b j = I b j := by
  unfold x_up
  by_cases hb : b = a
  · subst hb
    have hj : j ≠ k := by omega
    simp [upd, hj]
  · rw [if_neg hb]
theorem x_upP_eq {P : Nat → Nat → Option Nat} {a k b j : Nat} {v : Option Nat} (h : b = a ∧ j = k) : x_upP P a k v b j = v := by
  obtain ⟨rfl, rfl⟩ := h
  simp [x_upP, va_up]
theorem x_upP_ne {P : Nat → Nat → Option Nat} {a k b j : Nat} {v : Option Nat} (h : b ≠ a ∨ j ≠ k) : x_upP P a k v b j = P b j := by
  unfold x_upP
  by_cases hb : b = a
  · subst hb
    have hj : j ≠ k := by omega
    simp [va_up, hj]
  · rw [if_neg hb]
theorem x_z_eq {I : Nat → Nat → Int32} {a b j : Nat} (h : b = a) : x_z I a b j = 0 := by
  subst h
  simp [x_z]
theorem x_z_ne {I : Nat → Nat → Int32} {a b j : Nat} (h : b ≠ a) : x_z I a b j = I b j := by
  unfold x_z
  rw [if_neg h]
theorem x_n_eq {P : Nat → Nat → Option Nat} {a b j : Nat} (h : b = a) : x_n P a b j = none := by
  subst h
  simp [x_n]
theorem x_n_ne {P : Nat → Nat → Option Nat} {a b j : Nat} (h : b ≠ a) : x_n P a b j = P b j := by
  unfold x_n
  rw [if_neg h]
