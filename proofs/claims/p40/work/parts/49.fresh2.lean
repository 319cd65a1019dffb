
section
variable {p : Program} {l : Launch} {e : Env} {R : Room} {s : State} {m : MethodId} {args : Array Value} {below : List Frame} {meth : Method} {c : Code} {H : Heap} {locs : List Loc} {cells slots : Nat} {Q : State → Prop} {cc : ByteArray} {pc : Nat} {ls : Array Slot} {rest : List Value} {E : za_E} {b : Nat} {H0 : Heap}

/-- the line's old entries, told apart from a new person -/
def zk_sh (ad : za_Ad) : za_Ad := fun k i => if k = 8 ∧ 100 ≤ i then ad 8 (i - 100) else ad k i
def zk_xs (X : za_S) (n : Nat) : za_S := (fun c i j => if c = 0 ∧ i = n then 0 else X.1 c i j, fun c i j => if c = 0 ∧ j = 0 then (X.2 0 i 0).map (fun x => if x < n then x else x + 100) else X.2 c i j)
abbrev zk_a3 (ad : za_Ad) (n q q1 q2 : Nat) : za_Ad := zk_ad (zk_ad (zk_ad (zk_sh ad) 8 n q) 6 n q1) 7 n q2
abbrev zk_s3 (S : za_S) (n v : Nat) : za_S := za_P (za_P (za_N S 1 n 0 v) 0 n 0 none) 1 n 0 none
abbrev zk_x3 (X : za_S) (n : Nat) : za_S := za_N (zk_xs X n) 5 0 0 (n + 1)
/-- a new person is taken in -/
theorem za_person {ad : za_Ad} {S X T Y : za_S} {o : Int64} {d : UInt64} {n v q q1 q2 : Nat} {A : Nat → Prop} (h : za_G E b (ad, S, X, T, Y, o, d) H) (hn : X.1 5 0 0 = n) (hn10 : n < 10)
    (hP : va_P E.1 vwCl [(q, .inr (4, [.int (nI n), .ref q1, .int (nI v), .int 0, .int 0, .long 0, .null, .null])), (q1, .inr (3, [.ref q2])), (q2, .inl (E.2 0, 10, .inl (fun _ => 0)))] H) (hD : va_D A [(q, .inr (4, [.int (nI n), .ref q1, .int (nI v), .int 0, .int 0, .long 0, .null, .null])), (q1, .inr (3, [.ref q2])), (q2, .inl (E.2 0, 10, .inl (fun _ => 0)))]) (hA : ∀ z, A z → b ≤ z ∧ ∀ κ i, za_x (ad, S, X, T, Y, o, d) κ i → za_a (ad, S, X, T, Y, o, d) κ i ≠ z)
    (h2 : S.1 2 n 0 = 0) (h3 : S.1 3 n 0 = 0) (h4 : S.1 4 n 0 = 0) (hv : ∀ j x, X.2 1 j 0 = some x → x < n) (hw : ∀ r j x, S.2 2 r j = some x → x < n) (hpi : ∀ i x, i < n → S.2 1 i 0 = some x → x < n) (hs3 : ∀ r x, r < X.1 5 1 0 → S.2 3 r 0 = some x → x < n) (hs4 : ∀ r x, r < X.1 5 1 0 → S.2 4 r 0 = some x → x < n) :
    za_G E b (zk_a3 ad n q q1 q2, zk_s3 S n v, zk_x3 X n, T, Y, o, d) H := by
  obtain ⟨⟨d1, d2, d3⟩, hA1, hA2, hA3⟩ := zk_P3 hD
  have e8 : ∀ i, i < n → zk_a3 ad n q q1 q2 8 i = ad 8 i := fun i hi => by unfold zk_a3; rw [zk_ad2 _ (by omega), zk_ad2 _ (by omega), zk_ad2 _ (by omega)]; exact if_neg (by omega)
  have e8s : ∀ i, zk_a3 ad n q q1 q2 8 (i + 100) = ad 8 i := fun i => by unfold zk_a3; rw [zk_ad2 _ (by omega), zk_ad2 _ (by omega), zk_ad2 _ (by omega)]; exact (if_pos ⟨rfl, by omega⟩).trans (congrArg (ad 8) (by omega))
  have e6 : ∀ i, i ≠ n → zk_a3 ad n q q1 q2 6 i = ad 6 i := fun i hi => by unfold zk_a3; rw [zk_ad2 _ (by omega), zk_ad2 _ (by omega), zk_ad2 _ (by omega)]; exact if_neg (by omega)
  have e7 : ∀ i, i ≠ n → zk_a3 ad n q q1 q2 7 i = ad 7 i := fun i hi => by unfold zk_a3; rw [zk_ad2 _ (by omega), zk_ad2 _ (by omega), zk_ad2 _ (by omega)]; exact if_neg (by omega)
  have eo : ∀ κ i, κ ≠ 6 → κ ≠ 7 → κ ≠ 8 → zk_a3 ad n q q1 q2 κ i = ad κ i := fun κ i a a2 a3 => by unfold zk_a3; rw [zk_ad2 _ (by omega), zk_ad2 _ (by omega), zk_ad2 _ (by omega)]; exact if_neg (by omega)
  have n8 : zk_a3 ad n q q1 q2 8 n = q := by unfold zk_a3; rw [zk_ad2 _ (by omega), zk_ad2 _ (by omega), zk_ad1]
  have n6 : zk_a3 ad n q q1 q2 6 n = q1 := by unfold zk_a3; rw [zk_ad2 _ (by omega), zk_ad1]
  have n7 : zk_a3 ad n q q1 q2 7 n = q2 := zk_ad1 _ _ _ _
  have hx6 : ∀ i, za_x (ad, S, X, T, Y, o, d) 6 i → i ≠ n := fun i hi => by
    have : i < X.1 5 0 0 ∨ i = 10 := hi
    omega
  have hx7 : ∀ i, za_x (ad, S, X, T, Y, o, d) 7 i → i ≠ n := fun i hi => by
    have : i < X.1 5 0 0 ∨ i = 10 := hi
    omega
  have hx8 : ∀ i, za_x (ad, S, X, T, Y, o, d) 8 i → i < n := fun i hi => by
    have : i < X.1 5 0 0 := hi
    omega
  refine za_fold (fun κ i => (κ = 8 ∨ κ = 6 ∨ κ = 7) ∧ i = n) h (fun κ i hi => ?_) (fun κ i hi => ?_) (fun κ i hi => ?_) (fun κ i hi => ?_) (fun κ i κ' i' a1 a2 e => ?_)
  · have hc5 : (zk_x3 X n).1 5 0 0 = n + 1 := za_Ns _ _ _ _ _
    by_cases c8 : κ = 8
    · subst c8
      have h9 : i < (zk_x3 X n).1 5 0 0 := hi
      by_cases z : i = n
      · exact Or.inr ⟨Or.inl rfl, z⟩
      · exact Or.inl (show i < X.1 5 0 0 by omega)
    · by_cases c6 : κ = 6
      · subst c6
        have h9 : i < (zk_x3 X n).1 5 0 0 ∨ i = 10 := hi
        by_cases z : i = n
        · exact Or.inr ⟨Or.inr (Or.inl rfl), z⟩
        · exact Or.inl (show i < X.1 5 0 0 ∨ i = 10 by omega)
      · by_cases c7 : κ = 7
        · subst c7
          have h9 : i < (zk_x3 X n).1 5 0 0 ∨ i = 10 := hi
          by_cases z : i = n
          · exact Or.inr ⟨Or.inr (Or.inr rfl), z⟩
          · exact Or.inl (show i < X.1 5 0 0 ∨ i = 10 by omega)
        · exact Or.inl (za_ex_0 c6 c7 c8 hi)
  · by_cases c13 : κ = 13
    · subst c13
      rfl
    · rw [za_a_ne c13, za_a_ne c13]
      by_cases c8 : κ = 8
      · subst c8; exact e8 i (hx8 i hi)
      · by_cases c6 : κ = 6
        · subst c6; exact e6 i (hx6 i hi)
        · by_cases c7 : κ = 7
          · subst c7; exact e7 i (hx7 i hi)
          · exact eo κ i c6 c7 c8
  · refine za_k (P := fun κ => za_x (ad, S, X, T, Y, o, d) κ i → za_cell E (zk_a3 ad n q q1 q2, zk_s3 S n v, zk_x3 X n, T, Y, o, d) κ i = za_cell E (ad, S, X, T, Y, o, d) κ i) (za_ex34 hi) (fun _ => rfl) (fun _ => congrArg (fun f => (Sum.inl (E.2 3, 10, za_q f) : va_E)) (funext fun j => za_oeq (κ := 8) (fun x hx => e8 x (hv j x hx)))) (fun _ => rfl) (fun _ => rfl) (fun _ => by
      show (Sum.inr (2, [.ref (zk_a3 ad n q q1 q2 6 10), _, _, _]) : va_E) = Sum.inr (2, [.ref (ad 6 10), _, _, _])
      rw [e6 10 (by omega)]
      rfl) (fun _ => congrArg (fun f => (Sum.inl (E.2 3, 10, za_q f) : va_E)) (funext fun j => by
      show ((X.2 0 j 0).map (fun x => if x < n then x else x + 100)).map _ = (X.2 0 j 0).map (ad 8)
      cases hq9 : X.2 0 j 0 with
      | none => rfl
      | some x =>
        show some (zk_a3 ad n q q1 q2 8 (if x < n then x else x + 100)) = some (ad 8 x)
        by_cases z : x < n
        · rw [if_pos z, e8 x z]
        · rw [if_neg z, e8s x])) (fun z => by
      show (Sum.inr (3, [.ref (zk_a3 ad n q q1 q2 7 i)]) : va_E) = Sum.inr (3, [.ref (ad 7 i)])
      rw [e7 i (hx6 i z)]) (fun z => congrArg (fun f => (Sum.inl (E.2 0, 10, .inl f) : va_E)) (funext fun j => congrArg nI (if_neg (fun y => hx7 i z y.2)))) (fun z => by
      have z8 := hx8 i z
      have s1 : (zk_s3 S n v).1 1 i 0 = S.1 1 i 0 := if_neg (fun y => by have := y.2.1; omega)
      have s2 : (zk_s3 S n v).2 0 i 0 = S.2 0 i 0 := if_neg (fun y => by have := y.2.1; omega)
      have s3 : (zk_s3 S n v).2 1 i 0 = S.2 1 i 0 := if_neg (fun y => by have := y.2.1; omega)
      show (Sum.inr (4, [_, .ref (zk_a3 ad n q q1 q2 6 i), .int (nI ((zk_s3 S n v).1 1 i 0)), _, _, _, za_o _ 9 ((zk_s3 S n v).2 0 i 0), za_o (zk_a3 ad n q q1 q2) 8 ((zk_s3 S n v).2 1 i 0)]) : va_E) = Sum.inr (4, [_, .ref (ad 6 i), .int (nI (S.1 1 i 0)), _, _, _, za_o ad 9 (S.2 0 i 0), za_o ad 8 (S.2 1 i 0)])
      rw [s1, s2, s3, e6 i (by omega), za_oeq2 (ad := ad) (κ := 8) (fun x hx => e8 x (hpi i x z8 hx))]
      rfl) (fun z => by
      have z9 : i < X.1 5 1 0 := z
      show (Sum.inr (6, [_, _, _, za_o _ 8 (S.2 3 i 0), za_o _ 8 (S.2 4 i 0), _]) : va_E) = Sum.inr (6, [_, _, _, za_o ad 8 (S.2 3 i 0), za_o ad 8 (S.2 4 i 0), _])
      rw [za_oeq2 (ad := ad) (κ := 8) (fun x hx => e8 x (hs3 i x z9 hx)), za_oeq2 (ad := ad) (κ := 8) (fun x hx => e8 x (hs4 i x z9 hx))]
      rfl) (fun z => congrArg (fun f => (Sum.inl (E.2 3, 10, za_q f) : va_E)) (funext fun j => za_oeq (κ := 8) (fun x hx => e8 x (hw i j x hx)))) (fun _ => rfl) (fun _ => rfl) (fun _ => rfl) (fun _ => rfl) hi
  · obtain ⟨hk, rfl⟩ := hi
    rcases hk with rfl | rfl | rfl
    · rw [za_a_ne (by decide)]
      have ec : za_cell E (zk_a3 ad i q q1 q2, zk_s3 S i v, zk_x3 X i, T, Y, o, d) 8 i = .inr (4, [.int (nI i), .ref q1, .int (nI v), .int 0, .int 0, .long 0, .null, .null]) := by
        show (Sum.inr (4, [.int (nI i), .ref (zk_a3 ad i q q1 q2 6 i), .int (nI ((zk_s3 S i v).1 1 i 0)), .int (nI (S.1 2 i 0)), .int (nI (S.1 3 i 0)), .long (lN (S.1 4 i 0)), za_o _ 9 ((zk_s3 S i v).2 0 i 0), za_o _ 8 ((zk_s3 S i v).2 1 i 0)]) : va_E) = _
        rw [n6, h2, h3, h4, nI_0, show (zk_s3 S i v).1 1 i 0 = v from za_Ns S 1 i 0 v, show (zk_s3 S i v).2 0 i 0 = none from by simp [za_P], show (zk_s3 S i v).2 1 i 0 = none from za_Ps _ _ _ _ _]
        rfl
      rw [ec, show (zk_a3 ad i q q1 q2, zk_s3 S i v, zk_x3 X i, T, Y, o, d).1 8 i = q from n8]
      exact ⟨hP 0 _ rfl, (hA q hA1).1, (hA q hA1).2⟩
    · rw [za_a_ne (by decide)]
      have ec : za_cell E (zk_a3 ad i q q1 q2, zk_s3 S i v, zk_x3 X i, T, Y, o, d) 6 i = .inr (3, [.ref q2]) := by
        show (Sum.inr (3, [.ref (zk_a3 ad i q q1 q2 7 i)]) : va_E) = _
        rw [n7]
      rw [ec, show (zk_a3 ad i q q1 q2, zk_s3 S i v, zk_x3 X i, T, Y, o, d).1 6 i = q1 from n6]
      exact ⟨hP 1 _ rfl, (hA q1 hA2).1, (hA q1 hA2).2⟩
    · rw [za_a_ne (by decide)]
      have ec : za_cell E (zk_a3 ad i q q1 q2, zk_s3 S i v, zk_x3 X i, T, Y, o, d) 7 i = .inl (E.2 0, 10, .inl (fun _ => 0)) := by
        show (Sum.inl (E.2 0, 10, .inl (fun j => nI ((zk_x3 X i).1 0 i j))) : va_E) = _
        rw [show (fun j => nI ((zk_x3 X i).1 0 i j)) = fun _ => 0 from funext fun j => by
          rw [show (zk_x3 X i).1 0 i j = 0 from if_pos ⟨rfl, rfl⟩]
          exact nI_0]
      rw [ec, show (zk_a3 ad i q q1 q2, zk_s3 S i v, zk_x3 X i, T, Y, o, d).1 7 i = q2 from n7]
      exact ⟨hP 2 _ rfl, (hA q2 hA3).1, (hA q2 hA3).2⟩
  · obtain ⟨b1, rfl⟩ := a1
    obtain ⟨b2, rfl⟩ := a2
    rcases b1 with rfl | rfl | rfl <;> rcases b2 with rfl | rfl | rfl
    · exact ⟨rfl, rfl⟩
    · rw [za_a_ne (by decide), za_a_ne (by decide)] at e
      exact absurd (n8.symm.trans (e.trans n6)) d1
    · rw [za_a_ne (by decide), za_a_ne (by decide)] at e
      exact absurd (n8.symm.trans (e.trans n7)) d2
    · rw [za_a_ne (by decide), za_a_ne (by decide)] at e
      exact absurd (n8.symm.trans (e.symm.trans n6)) d1
    · exact ⟨rfl, rfl⟩
    · rw [za_a_ne (by decide), za_a_ne (by decide)] at e
      exact absurd (n6.symm.trans (e.trans n7)) d3
    · rw [za_a_ne (by decide), za_a_ne (by decide)] at e
      exact absurd (n8.symm.trans (e.symm.trans n7)) d2
    · rw [za_a_ne (by decide), za_a_ne (by decide)] at e
      exact absurd (n6.symm.trans (e.symm.trans n7)) d3
    · exact ⟨rfl, rfl⟩
abbrev zk_ak (ad : za_Ad) (n q q1 : Nat) : za_Ad := zk_ad (zk_ad ad 11 n q) 12 n q1
abbrev zk_xk (X : za_S) (n q2 : Nat) : za_S := za_N (za_N (za_P X 6 n 0 (some q2)) 4 n 0 16) 5 2 0 (n + 1)
/-- a new recorder is taken in -/
theorem za_rec {ad : za_Ad} {S X T Y : za_S} {o : Int64} {d : UInt64} {n r q q1 q2 : Nat} {A : Nat → Prop} (h : za_G E b (ad, S, X, T, Y, o, d) H) (hn : X.1 5 2 0 = n) (hn8 : n < 8)
    (hP : va_P E.1 vwCl [(q, .inr (5, [.ref q1, .ref (ad 9 r), .int 0])), (q1, .inr (7, [.int (nI 2000), .ref q2, .int 0])), (q2, .inl (E.2 0, 16, .inl (fun _ => 0)))] H) (hD : va_D A [(q, .inr (5, [.ref q1, .ref (ad 9 r), .int 0])), (q1, .inr (7, [.int (nI 2000), .ref q2, .int 0])), (q2, .inl (E.2 0, 16, .inl (fun _ => 0)))]) (hA : ∀ z, A z → b ≤ z ∧ ∀ κ i, za_x (ad, S, X, T, Y, o, d) κ i → za_a (ad, S, X, T, Y, o, d) κ i ≠ z)
    (h8 : S.1 8 n 0 = 0) (h7 : S.1 7 n 0 = 0) (h5 : ∀ j, S.2 5 n j = some 0) (hv : ∀ j x, X.2 3 j 0 = some x → x ≠ n) :
    za_G E b (zk_ak ad n q q1, za_N S 9 n 0 r, zk_xk X n q2, T, Y, o, d) H := by
  obtain ⟨⟨d1, d2, d3⟩, hA1, hA2, hA3⟩ := zk_P3 hD
  have e11 : ∀ i, i ≠ n → zk_ak ad n q q1 11 i = ad 11 i := fun i hi => by unfold zk_ak; rw [zk_ad2 _ (by omega), zk_ad2 _ (by omega)]
  have e12 : ∀ i, i ≠ n → zk_ak ad n q q1 12 i = ad 12 i := fun i hi => by unfold zk_ak; rw [zk_ad2 _ (by omega), zk_ad2 _ (by omega)]
  have eo : ∀ κ i, κ ≠ 11 → κ ≠ 12 → zk_ak ad n q q1 κ i = ad κ i := fun κ i a a2 => by unfold zk_ak; rw [zk_ad2 _ (by omega), zk_ad2 _ (by omega)]
  have n11 : zk_ak ad n q q1 11 n = q := by unfold zk_ak; rw [zk_ad2 _ (by omega), zk_ad1]
  have n12 : zk_ak ad n q q1 12 n = q1 := zk_ad1 _ _ _ _
  have n13 : (zk_xk X n q2).2 6 n 0 = some q2 := za_Ps _ _ _ _ _
  have e13 : ∀ i, i ≠ n → (zk_xk X n q2).2 6 i 0 = X.2 6 i 0 := fun i hi => if_neg (fun z => hi z.2.1)
  have e4 : ∀ i, i ≠ n → (zk_xk X n q2).1 4 i 0 = X.1 4 i 0 := fun i hi => by
    show (za_N (za_P X 6 n 0 (some q2)) 4 n 0 16).1 4 i 0 = _
    exact if_neg (fun z => hi z.2.1)
  have n4 : (zk_xk X n q2).1 4 n 0 = 16 := by
    show (za_N (za_P X 6 n 0 (some q2)) 4 n 0 16).1 4 n 0 = _
    exact za_Ns _ _ _ _ _
  have hx11 : ∀ i, za_x (ad, S, X, T, Y, o, d) 11 i → i ≠ n := fun i hi => by
    have : i < X.1 5 2 0 := hi
    omega
  have hx12 : ∀ i, za_x (ad, S, X, T, Y, o, d) 12 i → i ≠ n := fun i hi => by
    have : i < X.1 5 2 0 ∨ i = 8 := hi
    omega
  have hx13 : ∀ i, za_x (ad, S, X, T, Y, o, d) 13 i → i ≠ n := fun i hi => by
    have : i < X.1 5 2 0 ∨ i = 8 := hi
    omega
  have a13 : za_a (zk_ak ad n q q1, za_N S 9 n 0 r, zk_xk X n q2, T, Y, o, d) 13 n = q2 := by
    show ((zk_xk X n q2).2 6 n 0).getD 0 = q2
    rw [n13]
    rfl
  refine za_fold (fun κ i => (κ = 11 ∨ κ = 12 ∨ κ = 13) ∧ i = n) h (fun κ i hi => ?_) (fun κ i hi => ?_) (fun κ i hi => ?_) (fun κ i hi => ?_) (fun κ i κ' i' a1 a2 e => ?_)
  · have hc5 : (zk_xk X n q2).1 5 2 0 = n + 1 := za_Ns _ _ _ _ _
    by_cases c8 : κ = 11
    · subst c8
      have h9 : i < (zk_xk X n q2).1 5 2 0 := hi
      by_cases z : i = n
      · exact Or.inr ⟨Or.inl rfl, z⟩
      · exact Or.inl (show i < X.1 5 2 0 by omega)
    · by_cases c6 : κ = 12
      · subst c6
        have h9 : i < (zk_xk X n q2).1 5 2 0 ∨ i = 8 := hi
        by_cases z : i = n
        · exact Or.inr ⟨Or.inr (Or.inl rfl), z⟩
        · exact Or.inl (show i < X.1 5 2 0 ∨ i = 8 by omega)
      · by_cases c7 : κ = 13
        · subst c7
          have h9 : i < (zk_xk X n q2).1 5 2 0 ∨ i = 8 := hi
          by_cases z : i = n
          · exact Or.inr ⟨Or.inr (Or.inr rfl), z⟩
          · exact Or.inl (show i < X.1 5 2 0 ∨ i = 8 by omega)
        · exact Or.inl (za_ex_2 c8 c6 c7 hi)
  · by_cases c13 : κ = 13
    · subst c13
      show ((zk_xk X n q2).2 6 i 0).getD 0 = (X.2 6 i 0).getD 0
      rw [e13 i (hx13 i hi)]
    · rw [za_a_ne c13, za_a_ne c13]
      by_cases c8 : κ = 11
      · subst c8; exact e11 i (hx11 i hi)
      · by_cases c6 : κ = 12
        · subst c6; exact e12 i (hx12 i hi)
        · exact eo κ i c8 c6
  · refine za_k (P := fun κ => za_x (ad, S, X, T, Y, o, d) κ i → za_cell E (zk_ak ad n q q1, za_N S 9 n 0 r, zk_xk X n q2, T, Y, o, d) κ i = za_cell E (ad, S, X, T, Y, o, d) κ i) (za_ex34 hi) (fun _ => by
      show (Sum.inr (8, [_, _, _, .ref (zk_ak ad n q q1 12 8), _, _, _, _, _, _, _]) : va_E) = Sum.inr (8, [_, _, _, .ref (ad 12 8), _, _, _, _, _, _, _])
      rw [e12 8 (by omega)]
      rfl) (fun _ => rfl) (fun _ => rfl) (fun _ => congrArg (fun f => (Sum.inl (E.2 4, 8, za_q f) : va_E)) (funext fun j => za_oeq (κ := 11) (fun x hx => e11 x (hv j x hx)))) (fun _ => rfl) (fun _ => rfl) (fun _ => rfl) (fun _ => rfl) (fun _ => rfl) (fun _ => rfl) (fun _ => rfl) (fun z => by
      have z1 := hx11 i z
      show (Sum.inr (5, [.ref (zk_ak ad n q q1 12 i), .ref (ad 9 ((za_N S 9 n 0 r).1 9 i 0)), _]) : va_E) = Sum.inr (5, [.ref (ad 12 i), .ref (ad 9 (S.1 9 i 0)), _])
      rw [e12 i z1, za_N1, if_neg (by omega)]
      rfl) (fun z => by
      have z1 := hx12 i z
      show (Sum.inr (7, [_, .ref (((zk_xk X n q2).2 6 i 0).getD 0), _]) : va_E) = Sum.inr (7, [_, .ref ((X.2 6 i 0).getD 0), _])
      rw [e13 i z1]
      rfl) (fun z => by
      have z1 := hx13 i z
      show (Sum.inl (E.2 0, (zk_xk X n q2).1 4 i 0, _) : va_E) = Sum.inl (E.2 0, X.1 4 i 0, _)
      rw [e4 i z1]
      rfl) (fun _ => rfl) hi
  · obtain ⟨hk, rfl⟩ := hi
    rcases hk with rfl | rfl | rfl
    · rw [za_a_ne (by decide)]
      have ec : za_cell E (zk_ak ad i q q1, za_N S 9 i 0 r, zk_xk X i q2, T, Y, o, d) 11 i = .inr (5, [.ref q1, .ref (ad 9 r), .int 0]) := by
        show (Sum.inr (5, [.ref (zk_ak ad i q q1 12 i), .ref (zk_ak ad i q q1 9 ((za_N S 9 i 0 r).1 9 i 0)), .int (nI (S.1 8 i 0))]) : va_E) = _
        rw [n12, h8, nI_0, za_Ns, eo 9 r (by decide) (by decide)]
      rw [ec, show (zk_ak ad i q q1, za_N S 9 i 0 r, zk_xk X i q2, T, Y, o, d).1 11 i = q from n11]
      exact ⟨hP 0 _ rfl, (hA q hA1).1, (hA q hA1).2⟩
    · rw [za_a_ne (by decide)]
      have ec : za_cell E (zk_ak ad i q q1, za_N S 9 i 0 r, zk_xk X i q2, T, Y, o, d) 12 i = .inr (7, [.int (nI 2000), .ref q2, .int 0]) := by
        show (Sum.inr (7, [.int (nI (if i = 8 then 12000 else 2000)), .ref (((zk_xk X i q2).2 6 i 0).getD 0), .int (nI (S.1 7 i 0))]) : va_E) = _
        rw [n13, h7, nI_0, if_neg (by omega)]
        rfl
      rw [ec, show (zk_ak ad i q q1, za_N S 9 i 0 r, zk_xk X i q2, T, Y, o, d).1 12 i = q1 from n12]
      exact ⟨hP 1 _ rfl, (hA q1 hA2).1, (hA q1 hA2).2⟩
    · rw [a13]
      have ec : za_cell E (zk_ak ad i q q1, za_N S 9 i 0 r, zk_xk X i q2, T, Y, o, d) 13 i = .inl (E.2 0, 16, .inl (fun _ => 0)) := by
        show (Sum.inl (E.2 0, (zk_xk X i q2).1 4 i 0, .inl (fun j => za_enc (S.2 5 i j))) : va_E) = _
        rw [n4, show (fun j => za_enc (S.2 5 i j)) = fun _ => 0 from funext fun j => by rw [h5]; exact nI_0]
      rw [ec]
      exact ⟨hP 2 _ rfl, (hA q2 hA3).1, (hA q2 hA3).2⟩
  · obtain ⟨b1, rfl⟩ := a1
    obtain ⟨b2, rfl⟩ := a2
    rcases b1 with rfl | rfl | rfl <;> rcases b2 with rfl | rfl | rfl
    · exact ⟨rfl, rfl⟩
    · rw [za_a_ne (by decide), za_a_ne (by decide)] at e
      exact absurd (n11.symm.trans (e.trans n12)) d1
    · rw [a13, za_a_ne (by decide)] at e
      exact absurd (n11.symm.trans e) d2
    · rw [za_a_ne (by decide), za_a_ne (by decide)] at e
      exact absurd (n11.symm.trans (e.symm.trans n12)) d1
    · exact ⟨rfl, rfl⟩
    · rw [a13, za_a_ne (by decide)] at e
      exact absurd (n12.symm.trans e) d3
    · rw [a13, za_a_ne (by decide)] at e
      exact absurd (n11.symm.trans e.symm) d2
    · rw [a13, za_a_ne (by decide)] at e
      exact absurd (n12.symm.trans e.symm) d3
    · exact ⟨rfl, rfl⟩
end
