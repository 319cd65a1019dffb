
/-! ===== THE STATE: numbers and pointers by component, first index, second index ===== -/
abbrev za_S : Type := (Nat → Nat → Nat → Nat) × (Nat → Nat → Nat → Option Nat)
def za_N (S : za_S) (c i j v : Nat) : za_S := (fun c' i' j' => if c' = c ∧ i' = i ∧ j' = j then v else S.1 c' i' j', S.2)
def za_P (S : za_S) (c i j : Nat) (v : Option Nat) : za_S := (S.1, fun c' i' j' => if c' = c ∧ i' = i ∧ j' = j then v else S.2 c' i' j')
theorem za_N1 (S : za_S) (c i j v c' i' j' : Nat) : (za_N S c i j v).1 c' i' j' = if c' = c ∧ i' = i ∧ j' = j then v else S.1 c' i' j' := rfl
theorem za_N2 (S : za_S) (c i j v : Nat) : (za_N S c i j v).2 = S.2 := rfl
theorem za_P1 (S : za_S) (c i j : Nat) (v : Option Nat) : (za_P S c i j v).1 = S.1 := rfl
theorem za_P2 (S : za_S) (c i j : Nat) (v : Option Nat) (c' i' j' : Nat) : (za_P S c i j v).2 c' i' j' = if c' = c ∧ i' = i ∧ j' = j then v else S.2 c' i' j' := rfl
theorem za_Ns (S : za_S) (c i j v : Nat) : (za_N S c i j v).1 c i j = v := by simp [za_N]
theorem za_Ps (S : za_S) (c i j : Nat) (v : Option Nat) : (za_P S c i j v).2 c i j = v := by simp [za_P]
def za_enc (o : Option Nat) : Int32 := match o with
  | none => -1
  | some a => nI a
theorem za_enc_some (a : Nat) : za_enc (some a) = nI a := rfl
theorem za_enc_none : za_enc none = -1 := rfl
abbrev za_Ad : Type := Nat → Nat → Nat
abbrev za_T : Type := za_Ad × za_S × za_S × za_S × za_S × Int64 × UInt64
abbrev za_E : Type := va_G × (Nat → ClassId)
def za_o (ad : za_Ad) (κ : Nat) (r : Option Nat) : Value := va_rf (r.map (ad κ))
def za_q (f : Nat → Option Nat) : (Nat → Int32) ⊕ (Nat → Int64) ⊕ (Nat → UInt32) ⊕ (Nat → UInt64) ⊕ (Nat → Option Nat) := .inr (.inr (.inr (.inr f)))
def za_cell (E : za_E) (u : za_T) (κ i : Nat) : va_E := match u, κ with
  | (ad, S, X, _, _, _, _), 0 => .inr (8, [.ref (ad 1 0), .ref (ad 2 0), .ref (ad 3 0), .ref (ad 12 8), .ref (ad 4 0), .int (nI (S.1 0 0 0)), .int (nI (S.1 0 1 0)), .int (nI (S.1 0 2 0)), .int (nI (S.1 0 3 0)), .long (lN (X.1 3 0 0)), .long (lN (S.1 0 4 0))])
  | (ad, _, X, _, _, _, _), 1 => .inl (E.2 3, 10, za_q (fun j => (X.2 1 j 0).map (ad 8)))
  | (ad, _, X, _, _, _, _), 2 => .inl (E.2 5, 6, za_q (fun j => (X.2 2 j 0).map (ad 9)))
  | (ad, _, X, _, _, _, _), 3 => .inl (E.2 4, 8, za_q (fun j => (X.2 3 j 0).map (ad 11)))
  | (ad, _, X, _, _, _, _), 4 => .inr (2, [.ref (ad 6 10), .ref (ad 5 0), .int (nI (X.1 1 0 0)), .int (nI (X.1 2 0 0))])
  | (ad, _, X, _, _, _, _), 5 => .inl (E.2 3, 10, za_q (fun j => (X.2 0 j 0).map (ad 8)))
  | (ad, _, _, _, _, _, _), 6 => .inr (3, [.ref (ad 7 i)])
  | (_, _, X, _, _, _, _), 7 => .inl (E.2 0, 10, .inl (fun j => nI (X.1 0 i j)))
  | (ad, S, _, _, _, _, _), 8 => .inr (4, [.int (nI i), .ref (ad 6 i), .int (nI (S.1 1 i 0)), .int (nI (S.1 2 i 0)), .int (nI (S.1 3 i 0)), .long (lN (S.1 4 i 0)), za_o ad 9 (S.2 0 i 0), za_o ad 8 (S.2 1 i 0)])
  | (ad, S, _, _, _, _, _), 9 => .inr (6, [.int (nI i), .ref (ad 10 i), .int (nI (S.1 5 i 0)), za_o ad 8 (S.2 3 i 0), za_o ad 8 (S.2 4 i 0), .int (nI (S.1 6 i 0))])
  | (ad, S, _, _, _, _, _), 10 => .inl (E.2 3, 10, za_q (fun j => (S.2 2 i j).map (ad 8)))
  | (ad, S, _, _, _, _, _), 11 => .inr (5, [.ref (ad 12 i), .ref (ad 9 (S.1 9 i 0)), .int (nI (S.1 8 i 0))])
  | (_, S, X, _, _, _, _), 12 => .inr (7, [.int (nI (if i = 8 then 12000 else 2000)), .ref ((X.2 6 i 0).getD 0), .int (nI (S.1 7 i 0))])
  | (_, S, X, _, _, _, _), 13 => .inl (E.2 0, X.1 4 i 0, .inl (fun j => za_enc (S.2 5 i j)))
  | (_, _, _, T, _, _, d), _ => .inl (E.2 0, 10, .inl (fun j => nI (T.1 1 j 0)))

def za_ex (c0 c1 c2 κ i : Nat) : Prop := match κ with
  | 6 => i < c0 ∨ i = 10
  | 7 => i < c0 ∨ i = 10
  | 8 => i < c0
  | 9 => i < c1
  | 10 => i < c1
  | 11 => i < c2
  | 12 => i < c2 ∨ i = 8
  | 13 => i < c2 ∨ i = 8
  | k => k ≤ 14 ∧ i = 0
def za_x (u : za_T) (κ i : Nat) : Prop := za_ex (u.2.2.1.1 5 0 0) (u.2.2.1.1 5 1 0) (u.2.2.1.1 5 2 0) κ i
theorem za_ex34 {c0 c1 c2 κ i : Nat} (h : za_ex c0 c1 c2 κ i) : κ ≤ 14 := by
  unfold za_ex at h
  split at h <;> omega
theorem za_k {P : Nat → Prop} {κ : Nat} (h : κ ≤ 14) (h0 : P 0) (h1 : P 1) (h2 : P 2) (h3 : P 3) (h4 : P 4) (h5 : P 5) (h6 : P 6) (h7 : P 7) (h8 : P 8) (h9 : P 9) (h10 : P 10) (h11 : P 11) (h12 : P 12) (h13 : P 13) (h14 : P 14) : P κ := by
  have e : κ = 0 ∨ κ = 1 ∨ κ = 2 ∨ κ = 3 ∨ κ = 4 ∨ κ = 5 ∨ κ = 6 ∨ κ = 7 ∨ κ = 8 ∨ κ = 9 ∨ κ = 10 ∨ κ = 11 ∨ κ = 12 ∨ κ = 13 ∨ κ = 14 := by omega
  rcases e with rfl | rfl | rfl | rfl | rfl | rfl | rfl | rfl | rfl | rfl | rfl | rfl | rfl | rfl | rfl
  all_goals assumption
def za_a (u : za_T) (κ i : Nat) : Nat := if κ = 13 then (u.2.2.1.2 6 i 0).getD 0 else u.1 κ i
theorem za_a_ne {u : za_T} {κ i : Nat} (h : κ ≠ 13) : za_a u κ i = u.1 κ i := if_neg h
def za_G (E : za_E) (b : Nat) (u : za_T) (H : Heap) : Prop := (∀ κ i, za_x u κ i → va_at E.1 vwCl (za_a u κ i, za_cell E u κ i) H ∧ b ≤ za_a u κ i) ∧ ∀ κ i κ' i', za_x u κ i → za_x u κ' i' → za_a u κ i = za_a u κ' i' → κ = κ' ∧ i = i'
abbrev za_A (b : Nat) : Nat → Prop := fun q => b ≤ q
theorem za_arrE {cI : ClassId} {N : Nat} {f g : Nat → Value} (h : ∀ j, j < N → f j = g j) : arrV cI N f = arrV cI N g := by
  unfold arrV
  congr 1
  exact congrArg Array.ofFn (funext fun j => h j.val j.isLt)
theorem za_fe {f g : Nat → Int32} {cA : ClassId} {n : Nat} (h : ∀ j, f j = g j) : (Sum.inl (cA, n, Sum.inl f) : va_E) = Sum.inl (cA, n, Sum.inl g) := by rw [funext h]
def za_needs (j : Nat) : Value := .int (nI (if j = 0 then 0 else if j = 1 then 100 else if j = 2 then 400 else 1600))
abbrev za_tys (E : za_E) : List (ClassId × FieldType) := [(E.2 0, .int), (E.2 1, .int), (E.2 2, .int), (E.2 3, .object RX2), (E.2 4, .object RX3), (E.2 5, .object RX4), (E.2 6, .int)]
def za_K (E : za_E) (U : State) : Prop := va_K E.1 vwCl (za_tys E) U
theorem za_G.at {E : za_E} {b : Nat} {u : za_T} {H : Heap} (h : za_G E b u H) {κ i : Nat} (hi : za_x u κ i) : va_at E.1 vwCl (za_a u κ i, za_cell E u κ i) H := (h.1 κ i hi).1
theorem za_G.kept {E : za_E} {b : Nat} {u : za_T} {H H1 : Heap} (h : za_G E b u H) (hk : ∀ q, q < H.size → b ≤ q → H1[q]? = H[q]?) : za_G E b u H1 :=
  ⟨fun κ i hx => ⟨((h.1 κ i hx).1).kept (hk _ ((h.1 κ i hx).1.lt) (h.1 κ i hx).2), (h.1 κ i hx).2⟩, h.2⟩
/-- one cell is written: the state's new numbers say the same of all other cells -/
theorem za_set {E : za_E} {b : Nat} {u u' : za_T} {H H1 : Heap} {κ i : Nat} (h : za_G E b u H) (had : ∀ κ i, za_a u' κ i = za_a u κ i) (hx : ∀ κ' i', za_x u' κ' i' = za_x u κ' i') (hi : za_x u κ i) (h1 : va_at E.1 vwCl (za_a u κ i, za_cell E u' κ i) H1) (oq : ∀ q, q ≠ za_a u κ i → H1[q]? = H[q]?)
    (hs : ∀ κ' i', za_x u κ' i' → ¬ (κ' = κ ∧ i' = i) → za_cell E u' κ' i' = za_cell E u κ' i') : za_G E b u' H1 := by
  refine ⟨fun κ' i' hx' => ?_, fun k1 i1 k2 i2 a1 a2 e => ?_⟩
  · rw [hx] at hx'
    rw [had]
    refine ⟨?_, (h.1 κ' i' hx').2⟩
    by_cases hq : κ' = κ ∧ i' = i
    · obtain ⟨rfl, rfl⟩ := hq
      exact h1
    · rw [hs κ' i' hx' hq]
      exact ((h.1 κ' i' hx').1).kept (oq _ fun e => hq (h.2 κ' i' κ i hx' hi e))
  · rw [hx] at a1 a2
    rw [had, had] at e
    exact h.2 k1 i1 k2 i2 a1 a2 e
