
section
variable {p : Program} {l : Launch} {e : Env} {R : Room} {s : State} {m : MethodId} {args : Array Value} {below : List Frame} {meth : Method} {c : Code} {H : Heap} {locs : List Loc} {cells slots : Nat} {Q : State → Prop} {cc : ByteArray} {pc : Nat} {ls : Array Slot} {rest : List Value} {E : za_E} {b : Nat} {H0 : Heap}

/-- where new cells lie -/
def zk_ad (ad : za_Ad) (κ n q : Nat) : za_Ad := fun k i => if k = κ ∧ i = n then q else ad k i
theorem zk_ad1 (ad : za_Ad) (κ n q : Nat) : zk_ad ad κ n q κ n = q := if_pos ⟨rfl, rfl⟩
theorem zk_ad2 (ad : za_Ad) {κ n q k i : Nat} (h : ¬ (k = κ ∧ i = n)) : zk_ad ad κ n q k i = ad k i := if_neg h
theorem zk_S {A : Nat → Prop} {H1 : Heap} (h : va_S A H0 H locs) (hz : H.size ≤ H1.size) (ho : ∀ z, z < H.size → H1[z]? = H[z]?) : va_S A H0 H1 locs := ⟨Nat.le_trans h.1 hz, fun q h1 h2 => (ho q (Nat.lt_of_lt_of_le h1 h.1)).trans (h.2.1 q h1 h2), h.2.2⟩
theorem zk_kept {u : za_T} {H1 : Heap} (h : za_G E b u H) (hk : ∀ κ i, za_x u κ i → H1[za_a u κ i]? = H[za_a u κ i]?) : za_G E b u H1 := ⟨fun κ i hx => ⟨((h.1 κ i hx).1).kept (hk κ i hx), (h.1 κ i hx).2⟩, h.2⟩
theorem zk_new (hexec : p.tables.exec = Jvm.exec) (hb : c.code = cc) {own C : String} {T : u_T} {N ci index : Nat} {Ts : List Cond} (hts : ∀ w ∈ Ts, w.before args s = true) (hin : ∀ w ∈ u_ws C T N, w ∈ Ts) (ty : Nat → FieldType) (hty : ∀ k, k < N → parseFieldDescriptor (T k).2.2.1 = some (ty k)) (hown : s.vm.findClass own = some m.cls) (hcl : (Cond.classLink own index C).before args s = true) (hinst : (Cond.instantiable C N).before args s = true) (hini : (Cond.initialized C).before args s = true) (hK : za_K E s) (hc : vwCl[ci]? = some (C, T, N)) {fs : List Value} (hfs : ∀ j, j < N → defaultValue (ty j) = vp_V fs j) {u : za_T} (hG : za_G E b u H) (hS : va_S (za_A b) s.heap H locs) (hcells : cells + 1 ≤ R.cells) (hslots : slots + N ≤ R.slots) (hdg : decode cc pc = .ok (.new index, 3))
    (kk : ∀ (q : Nat) (H1 : Heap), va_P E.1 vwCl [(q, .inr (ci, fs))] H1 → q < H1.size → s.heap.size ≤ q → (∀ κ i, za_x u κ i → za_a u κ i < q) → za_G E b u H1 → va_S (za_A b) s.heap H1 locs → W p l e R s m args below meth c H1 locs (cells + 1) (slots + N) Q (F0 m (pc + 3) ls (.ref q :: rest))) : W p l e R s m args below meth c H locs cells slots Q (F0 m pc ls rest) := by
  have hKn := hK.1 ci _ hc
  refine W.newcK hexec hb hown hcl hinst hini rfl hdg hcells hslots hKn.2.1 rfl fun H1 kC hkC e1 z1 o1 => ?_
  refine kk H.size H1 (fun k x hx => ?_) (by omega) hS.1 (fun κ i hi => (hG.at hi).lt) (hG.kept (fun z hz _ => o1 z hz)) (zk_S hS (by omega) o1)
  have hz : k < 1 := (List.getElem?_eq_some_iff.mp hx).1
  rw [show k = 0 by omega] at hx
  cases hx
  exact ⟨_, hc, (u_born ty hts hin hKn hkC e1 hty).to hfs⟩
theorem zk_call {y : MethodName} {bytes : ByteArray} {maxL nL mc ms n index q : Nat} {x : va_E} {ws : List Cond} {rm : Room} {Ts : List Cond} {L L' : List String} {own : String} {As st : List Value} {B : Unit → State → Prop} (hK : za_K E s) (hN : zk_N L' s) (hL : ∀ C ∈ L, C ∈ L') (hb0 : b ≤ s.heap.size) (hqs : s.heap.size ≤ q) (hqz : q < H.size) {u : za_T} (hG : za_G E b u H) (hlt : ∀ κ i, za_x u κ i → za_a u κ i < q) (hP : va_P E.1 vwCl [(q, x)] H) (hS : va_S (za_A b) s.heap H locs) (hexec : p.tables.exec = Jvm.exec) (hb : c.code = cc) (hml : c.maxLocals = nL) (hown : s.vm.findClass own = some m.cls) (hts : ∀ w ∈ Ts, w.before args s = true)
    (hM : Met l y ws rm (zk_Pc E (.ref q :: As) [(q, x)] H.size L) (va_Qv (S := Unit) (fun _ => True) B (va_A [(q, x)] H.size)) mc ms (va_A [(q, x)] H.size)) (cw : CallB R s args own index y bytes maxL none ws rm mc ms n ∧ y.name = "<init>" ∧ (Cond.instanceMethod y).before args s = true) (hn : As.length = n) {lv : List (Nat × Value)} (hl : lv_has ls nL lv) (hst : st = As.reverse ++ .ref q :: rest) (hW : (rest.map fun v => v.category).sum ≤ 8) (hdg : decode cc pc = .ok (.invokespecial index, 3)) (hf : cells + mc ≤ R.cells ∧ slots + ms ≤ R.slots)
    (kk : ∀ (t : State) (H1 : Heap) (locs1 : List Loc), t.heap = H1 → B () t → za_G E b u H1 → va_S (za_A b) s.heap H1 locs1 → (∀ z, va_A [(q, x)] H.size z → b ≤ z ∧ ∀ κ i, za_x u κ i → za_a u κ i ≠ z) → W p l e R s m args below meth c H1 locs1 (cells + mc) (slots + ms) Q (F0 m (pc + 3) ls rest)) : W p l e R s m args below meth c H locs cells slots Q (F0 m pc ls st) := by
  subst hst
  have hA : ∀ z, va_A [(q, x)] H.size z → z = q ∨ H.size ≤ z := fun z hz => by
    rcases hz with ⟨k, e, h⟩ | h
    · have hk : k < 1 := (List.getElem?_eq_some_iff.mp h).1
      rw [show k = 0 by omega] at h
      cases h
      exact Or.inl rfl
    · exact Or.inr h
  have hA2 : ∀ z, va_A [(q, x)] H.size z → za_A b z := fun z hz => by
    show b ≤ z
    rcases hA z hz with h | h <;> omega
  have hD : va_D (fun _ => True) [(q, x)] := ⟨fun i j p' q' hp hq _ => by
    have h1 : i < 1 := (List.getElem?_eq_some_iff.mp hp).1
    have h2 : j < 1 := (List.getElem?_eq_some_iff.mp hq).1
    omega, fun _ _ _ => trivial⟩
  refine va_callv (va_runI (As := As) (rest := rest) ⟨hexec, hb, hml, hown, hts⟩ hM cw ⟨zk_blind, fun U hU hW => ⟨rfl, by rw [hU], by rw [hU]; exact hP, va_K.moved hW.alike hK, hN.warm hW hL, hD⟩⟩ rfl hn hl.1 rfl (lv_room hW) hdg hf) hS (fun z _ h => hA2 z h) hA2 (fun u t H1 locs1 ht hvm hw hB hz1 hk1 hS1 => ?_)
  refine kk t H1 locs1 ht hB (zk_kept hG (fun κ i hi => hk1 _ (Nat.lt_trans (hlt κ i hi) hqz) (fun hz => ?_))) hS1 (fun z hz => ⟨hA2 z hz, fun κ i hi e => ?_⟩)
  · have h1 := hlt κ i hi
    rcases hA _ hz with h | h <;> omega
  · have h1 := hlt κ i hi
    rcases hA _ hz with h | h <;> omega
/-- new cells are taken in -/
theorem za_fold {u u' : za_T} (N : Nat → Nat → Prop) (h : za_G E b u H) (hx : ∀ κ i, za_x u' κ i → za_x u κ i ∨ N κ i) (ha : ∀ κ i, za_x u κ i → za_a u' κ i = za_a u κ i) (hc : ∀ κ i, za_x u κ i → za_cell E u' κ i = za_cell E u κ i) (hn : ∀ κ i, N κ i → va_at E.1 vwCl (za_a u' κ i, za_cell E u' κ i) H ∧ b ≤ za_a u' κ i ∧ ∀ κ' i', za_x u κ' i' → za_a u κ' i' ≠ za_a u' κ i) (hd : ∀ κ i κ' i', N κ i → N κ' i' → za_a u' κ i = za_a u' κ' i' → κ = κ' ∧ i = i') : za_G E b u' H := by
  refine ⟨fun κ i hi => ?_, fun k1 i1 k2 i2 h1 h2 e => ?_⟩
  · rcases hx κ i hi with q | q
    · rw [ha κ i q, hc κ i q]
      exact h.1 κ i q
    · exact ⟨(hn κ i q).1, (hn κ i q).2.1⟩
  · rcases hx k1 i1 h1 with q1 | q1 <;> rcases hx k2 i2 h2 with q2 | q2
    · rw [ha k1 i1 q1, ha k2 i2 q2] at e
      exact h.2 k1 i1 k2 i2 q1 q2 e
    · rw [ha k1 i1 q1] at e
      exact absurd e ((hn k2 i2 q2).2.2 k1 i1 q1)
    · rw [ha k2 i2 q2] at e
      exact absurd e.symm ((hn k1 i1 q1).2.2 k2 i2 q2)
    · exact hd k1 i1 k2 i2 q1 q2 e
theorem za_ex_1 {c0 c1 c1' c2 κ i : Nat} (h9 : κ ≠ 9) (h10 : κ ≠ 10) (h : za_ex c0 c1 c2 κ i) : za_ex c0 c1' c2 κ i := by
  unfold za_ex at h ⊢
  split at h <;> first | exact h | exact absurd rfl h9 | exact absurd rfl h10 | skip
  all_goals (split <;> first | contradiction | exact h)
theorem za_ex_0 {c0 c0' c1 c2 κ i : Nat} (h6 : κ ≠ 6) (h7 : κ ≠ 7) (h8 : κ ≠ 8) (h : za_ex c0 c1 c2 κ i) : za_ex c0' c1 c2 κ i := by
  unfold za_ex at h ⊢
  split at h <;> first | exact h | exact absurd rfl h6 | exact absurd rfl h7 | exact absurd rfl h8 | skip
  all_goals (split <;> first | contradiction | exact h)
theorem za_ex_2 {c0 c1 c2 c2' κ i : Nat} (h11 : κ ≠ 11) (h12 : κ ≠ 12) (h13 : κ ≠ 13) (h : za_ex c0 c1 c2 κ i) : za_ex c0 c1 c2' κ i := by
  unfold za_ex at h ⊢
  split at h <;> first | exact h | exact absurd rfl h11 | exact absurd rfl h12 | exact absurd rfl h13 | skip
  all_goals (split <;> first | contradiction | exact h)
theorem zk_P2 {A : Nat → Prop} {a1 a2 : Nat} {x1 x2 : va_E} (hD : va_D A [(a1, x1), (a2, x2)]) : a1 ≠ a2 ∧ A a1 ∧ A a2 := ⟨fun e => by have := hD.1 0 1 (a1, x1) (a2, x2) rfl rfl e; omega, hD.2 0 _ rfl, hD.2 1 _ rfl⟩
theorem zk_P3 {A : Nat → Prop} {a1 a2 a3 : Nat} {x1 x2 x3 : va_E} (hD : va_D A [(a1, x1), (a2, x2), (a3, x3)]) : (a1 ≠ a2 ∧ a1 ≠ a3 ∧ a2 ≠ a3) ∧ A a1 ∧ A a2 ∧ A a3 := ⟨⟨fun e => by have := hD.1 0 1 (a1, x1) (a2, x2) rfl rfl e; omega, fun e => by have := hD.1 0 2 (a1, x1) (a3, x3) rfl rfl e; omega, fun e => by have := hD.1 1 2 (a2, x2) (a3, x3) rfl rfl e; omega⟩, hD.2 0 _ rfl, hD.2 1 _ rfl, hD.2 2 _ rfl⟩
theorem za_oeq {ad ad' : za_Ad} {κ : Nat} {o : Option Nat} (h : ∀ x, o = some x → ad' κ x = ad κ x) : o.map (ad' κ) = o.map (ad κ) := by
  cases o with
  | none => rfl
  | some x => exact congrArg some (h x rfl)
theorem za_oeq2 {ad ad' : za_Ad} {κ : Nat} {o : Option Nat} (h : ∀ x, o = some x → ad' κ x = ad κ x) : za_o ad' κ o = za_o ad κ o := by
  unfold za_o
  rw [za_oeq h]
/-- a new room is taken in -/
theorem za_room {ad : za_Ad} {S X T Y : za_S} {o : Int64} {d : UInt64} {n q q1 : Nat} {A : Nat → Prop} (h : za_G E b (ad, S, X, T, Y, o, d) H) (hn : X.1 5 1 0 = n)
    (hP : va_P E.1 vwCl [(q, .inr (6, [.int (nI n), .ref q1, .int 0, .null, .null, .int 0])), (q1, .inl (E.2 3, 10, .inr (.inr (.inr (.inr (fun _ => none))))))] H) (hD : va_D A [(q, .inr (6, [.int (nI n), .ref q1, .int 0, .null, .null, .int 0])), (q1, .inl (E.2 3, 10, .inr (.inr (.inr (.inr (fun _ => none))))))]) (hA : ∀ z, A z → b ≤ z ∧ ∀ κ i, za_x (ad, S, X, T, Y, o, d) κ i → za_a (ad, S, X, T, Y, o, d) κ i ≠ z)
    (h5 : S.1 5 n 0 = 0) (h6 : S.1 6 n 0 = 0) (h2 : ∀ j, S.2 2 n j = none) (hv : ∀ j x, X.2 2 j 0 = some x → x ≠ n) (hr : ∀ a x, a < X.1 5 0 0 → S.2 0 a 0 = some x → x ≠ n) (hf : ∀ k, k < X.1 5 2 0 → S.1 9 k 0 ≠ n) :
    za_G E b (zk_ad (zk_ad ad 9 n q) 10 n q1, za_P (za_P S 3 n 0 none) 4 n 0 none, za_N X 5 1 0 (n + 1), T, Y, o, d) H := by
  obtain ⟨hne, hA1, hA2⟩ := zk_P2 hD
  have e9 : ∀ i, i ≠ n → zk_ad (zk_ad ad 9 n q) 10 n q1 9 i = ad 9 i := fun i hi => by rw [zk_ad2 _ (by omega), zk_ad2 _ (by omega)]
  have e10 : ∀ i, i ≠ n → zk_ad (zk_ad ad 9 n q) 10 n q1 10 i = ad 10 i := fun i hi => by rw [zk_ad2 _ (by omega), zk_ad2 _ (by omega)]
  have eo : ∀ κ i, κ ≠ 9 → κ ≠ 10 → zk_ad (zk_ad ad 9 n q) 10 n q1 κ i = ad κ i := fun κ i a a2 => by rw [zk_ad2 _ (by omega), zk_ad2 _ (by omega)]
  have n9 : zk_ad (zk_ad ad 9 n q) 10 n q1 9 n = q := by rw [zk_ad2 _ (by omega), zk_ad1]
  have n10 : zk_ad (zk_ad ad 9 n q) 10 n q1 10 n = q1 := zk_ad1 _ _ _ _
  have hxi : ∀ i, za_x (ad, S, X, T, Y, o, d) 9 i → i ≠ n := fun i hi => by
    have : i < X.1 5 1 0 := hi
    omega
  have hxi0 : ∀ i, za_x (ad, S, X, T, Y, o, d) 10 i → i ≠ n := fun i hi => by
    have : i < X.1 5 1 0 := hi
    omega
  refine za_fold (fun κ i => (κ = 9 ∨ κ = 10) ∧ i = n) h (fun κ i hi => ?_) (fun κ i hi => ?_) (fun κ i hi => ?_) (fun κ i hi => ?_) (fun κ i κ' i' a1 a2 e => ?_)
  · by_cases c9 : κ = 9
    · subst c9
      have h9 : i < (za_N X 5 1 0 (n + 1)).1 5 1 0 := hi
      rw [za_Ns] at h9
      by_cases z : i = n
      · exact Or.inr ⟨Or.inl rfl, z⟩
      · exact Or.inl (show i < X.1 5 1 0 by omega)
    · by_cases c10 : κ = 10
      · subst c10
        have h9 : i < (za_N X 5 1 0 (n + 1)).1 5 1 0 := hi
        rw [za_Ns] at h9
        by_cases z : i = n
        · exact Or.inr ⟨Or.inr rfl, z⟩
        · exact Or.inl (show i < X.1 5 1 0 by omega)
      · exact Or.inl (za_ex_1 c9 c10 hi)
  · by_cases c13 : κ = 13
    · subst c13
      rfl
    · rw [za_a_ne c13, za_a_ne c13]
      by_cases c9 : κ = 9
      · subst c9; exact e9 i (hxi i hi)
      · by_cases c10 : κ = 10
        · subst c10; exact e10 i (hxi0 i hi)
        · exact eo κ i c9 c10
  · refine za_k (P := fun κ => za_x (ad, S, X, T, Y, o, d) κ i → za_cell E (zk_ad (zk_ad ad 9 n q) 10 n q1, za_P (za_P S 3 n 0 none) 4 n 0 none, za_N X 5 1 0 (n + 1), T, Y, o, d) κ i = za_cell E (ad, S, X, T, Y, o, d) κ i) (za_ex34 hi) (fun _ => rfl) (fun _ => rfl) (fun _ => congrArg (fun f => (Sum.inl (E.2 5, 6, za_q f) : va_E)) (funext fun j => za_oeq (κ := 9) (fun x hx => e9 x (hv j x hx)))) (fun _ => rfl) (fun _ => rfl) (fun _ => rfl) (fun _ => rfl) (fun _ => rfl) (fun z => by
      have z8 : i < X.1 5 0 0 := z
      show (Sum.inr (4, [_, _, _, _, _, _, za_o _ 9 (S.2 0 i 0), za_o _ 8 _]) : va_E) = Sum.inr (4, [_, _, _, _, _, _, za_o ad 9 (S.2 0 i 0), _])
      rw [za_oeq2 (ad := ad) (κ := 9) (fun x hx => e9 x (hr i x z8 hx))]
      rfl) (fun z => by
      have z9 := hxi i z
      simp only [za_cell, za_P1, za_P2, za_N1, za_N2]
      rw [if_neg (by omega), if_neg (by omega), if_neg (by omega), e10 i z9]
      rfl) (fun z => rfl) (fun z => by
      have z11 : i < X.1 5 2 0 := z
      show (Sum.inr (5, [_, .ref (zk_ad (zk_ad ad 9 n q) 10 n q1 9 (S.1 9 i 0)), _]) : va_E) = Sum.inr (5, [_, .ref (ad 9 (S.1 9 i 0)), _])
      rw [e9 _ (hf i z11)]
      rfl) (fun _ => rfl) (fun _ => rfl) (fun _ => rfl) hi
  · obtain ⟨hk, rfl⟩ := hi
    rcases hk with rfl | rfl
    · rw [za_a_ne (by decide)]
      have ec : za_cell E (zk_ad (zk_ad ad 9 i q) 10 i q1, za_P (za_P S 3 i 0 none) 4 i 0 none, za_N X 5 1 0 (i + 1), T, Y, o, d) 9 i = .inr (6, [.int (nI i), .ref q1, .int 0, .null, .null, .int 0]) := by
        show (Sum.inr (6, [.int (nI i), .ref (zk_ad (zk_ad ad 9 i q) 10 i q1 10 i), .int (nI (S.1 5 i 0)), za_o _ 8 _, za_o _ 8 _, .int (nI (S.1 6 i 0))]) : va_E) = _
        rw [n10, h5, h6, nI_0, show (za_P (za_P S 3 i 0 none) 4 i 0 none).2 3 i 0 = none from by simp [za_P], show (za_P (za_P S 3 i 0 none) 4 i 0 none).2 4 i 0 = none from za_Ps _ _ _ _ _]
        rfl
      rw [ec, show (zk_ad (zk_ad ad 9 i q) 10 i q1, za_P (za_P S 3 i 0 none) 4 i 0 none, za_N X 5 1 0 (i + 1), T, Y, o, d).1 9 i = q from n9]
      exact ⟨hP 0 _ rfl, (hA q hA1).1, (hA q hA1).2⟩
    · rw [za_a_ne (by decide)]
      have ec : za_cell E (zk_ad (zk_ad ad 9 i q) 10 i q1, za_P (za_P S 3 i 0 none) 4 i 0 none, za_N X 5 1 0 (i + 1), T, Y, o, d) 10 i = .inl (E.2 3, 10, .inr (.inr (.inr (.inr (fun _ => none))))) := by
        show (Sum.inl (E.2 3, 10, za_q (fun j => ((za_P (za_P S 3 i 0 none) 4 i 0 none).2 2 i j).map _)) : va_E) = _
        have e2 : ∀ j, (za_P (za_P S 3 i 0 none) 4 i 0 none).2 2 i j = none := fun j => h2 j
        rw [show (fun j => ((za_P (za_P S 3 i 0 none) 4 i 0 none).2 2 i j).map (zk_ad (zk_ad ad 9 i q) 10 i q1 8)) = fun _ => none from funext fun j => by rw [e2]; rfl]
        rfl
      rw [ec, show (zk_ad (zk_ad ad 9 i q) 10 i q1, za_P (za_P S 3 i 0 none) 4 i 0 none, za_N X 5 1 0 (i + 1), T, Y, o, d).1 10 i = q1 from n10]
      exact ⟨hP 1 _ rfl, (hA q1 hA2).1, (hA q1 hA2).2⟩
  · obtain ⟨b1, rfl⟩ := a1
    obtain ⟨b2, rfl⟩ := a2
    rcases b1 with rfl | rfl <;> rcases b2 with rfl | rfl
    · exact ⟨rfl, rfl⟩
    · rw [za_a_ne (by decide), za_a_ne (by decide)] at e
      exact absurd (n9.symm.trans (e.trans n10)) hne
    · rw [za_a_ne (by decide), za_a_ne (by decide)] at e
      exact absurd (n9.symm.trans (e.symm.trans n10)) hne
    · exact ⟨rfl, rfl⟩
end
