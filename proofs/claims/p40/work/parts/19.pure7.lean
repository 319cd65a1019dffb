
/-- what always holds of the numbers that the document speaks of -/
def zs_Q (S : za_S) : Prop :=
  zs_B S ∧ (S.1 0 0 0 ≤ 10 ∧ S.1 0 1 0 ≤ 6 ∧ S.1 0 2 0 ≤ 8) ∧ (∀ r, S.1 5 r 0 ≤ 10) ∧
  (∀ a r, a < S.1 0 0 0 → S.2 0 a 0 = some r → r < S.1 0 1 0 ∧ ∃ j, j < S.1 5 r 0 ∧ S.2 2 r j = some a) ∧
  (∀ r j, j < S.1 5 r 0 → ∃ a, a < S.1 0 0 0 ∧ S.2 2 r j = some a ∧ S.2 0 a 0 = some r) ∧
  (∀ r j k, j < S.1 5 r 0 → k < S.1 5 r 0 → S.2 2 r j = S.2 2 r k → j = k) ∧
  (∀ r i x, S.2 2 r i = some x → x < S.1 0 0 0) ∧
  (∀ r x, r < S.1 0 1 0 → S.2 3 r 0 = some x → x < S.1 0 0 0 ∧ S.2 0 x 0 = some r) ∧
  (∀ r x, r < S.1 0 1 0 → S.2 4 r 0 = some x → x < S.1 0 0 0) ∧
  (∀ a q, a < S.1 0 0 0 → S.2 1 a 0 = some q → q < S.1 0 0 0 ∧ q ≠ a) ∧
  (∀ k, k < S.1 0 2 0 → S.1 9 k 0 < S.1 0 1 0) ∧
  (∀ a, S.1 1 a 0 ≤ 9999 ∧ S.1 2 a 0 ≤ 3 ∧ S.1 3 a 0 ≤ 99 ∧ S.1 8 a 0 ≤ 1) ∧
  (S.1 0 3 0 ≤ 2000 ∧ S.1 7 8 0 ≤ 6 * S.1 0 3 0 ∧ ∀ k, k < 8 → S.1 7 k 0 ≤ S.1 0 3 0) ∧
  (∀ k j, S.1 7 k 0 ≤ j → S.2 5 k j = some 0) ∧
  (∀ a, S.1 0 0 0 ≤ a → S.1 2 a 0 = 0 ∧ S.1 3 a 0 = 0 ∧ S.1 4 a 0 = 0) ∧
  (∀ r, S.1 0 1 0 ≤ r → S.1 5 r 0 = 0 ∧ S.1 6 r 0 = 0 ∧ ∀ j, S.2 2 r j = none) ∧
  (∀ k, S.1 0 2 0 ≤ k → k < 8 → S.1 7 k 0 = 0 ∧ S.1 8 k 0 = 0)
theorem zs_Q.B {S : za_S} (h : zs_Q S) : zs_B S := h.1
theorem zs_Q.c {S : za_S} (h : zs_Q S) : S.1 0 0 0 ≤ 10 ∧ S.1 0 1 0 ≤ 6 ∧ S.1 0 2 0 ≤ 8 := h.2.1
theorem zs_Q.sz {S : za_S} (h : zs_Q S) (r : Nat) : S.1 5 r 0 ≤ 10 := h.2.2.1 r
theorem zs_Q.ro {S : za_S} (h : zs_Q S) {a r : Nat} (ha : a < S.1 0 0 0) (e : S.2 0 a 0 = some r) : r < S.1 0 1 0 := (h.2.2.2.1 a r ha e).1
theorem zs_Q.at {S : za_S} (h : zs_Q S) {a r : Nat} (ha : a < S.1 0 0 0) (e : S.2 0 a 0 = some r) : ∃ j, j < S.1 5 r 0 ∧ S.2 2 r j = some a := (h.2.2.2.1 a r ha e).2
theorem zs_Q.oc {S : za_S} (h : zs_Q S) {r j : Nat} (hj : j < S.1 5 r 0) : ∃ a, a < S.1 0 0 0 ∧ S.2 2 r j = some a ∧ S.2 0 a 0 = some r := h.2.2.2.2.1 r j hj
theorem zs_Q.un {S : za_S} (h : zs_Q S) {r j k : Nat} (hj : j < S.1 5 r 0) (hk : k < S.1 5 r 0) (e : S.2 2 r j = S.2 2 r k) : j = k := h.2.2.2.2.2.1 r j k hj hk e
theorem zs_Q.pe {S : za_S} (h : zs_Q S) (r i x : Nat) (e : S.2 2 r i = some x) : x < S.1 0 0 0 := h.2.2.2.2.2.2.1 r i x e
theorem zs_Q.sp {S : za_S} (h : zs_Q S) {r x : Nat} (hr : r < S.1 0 1 0) (e : S.2 3 r 0 = some x) : x < S.1 0 0 0 ∧ S.2 0 x 0 = some r := h.2.2.2.2.2.2.2.1 r x hr e
theorem zs_Q.ch {S : za_S} (h : zs_Q S) {r x : Nat} (hr : r < S.1 0 1 0) (e : S.2 4 r 0 = some x) : x < S.1 0 0 0 := h.2.2.2.2.2.2.2.2.1 r x hr e
theorem zs_Q.pi {S : za_S} (h : zs_Q S) {a q : Nat} (ha : a < S.1 0 0 0) (e : S.2 1 a 0 = some q) : q < S.1 0 0 0 ∧ q ≠ a := h.2.2.2.2.2.2.2.2.2.1 a q ha e
theorem zs_Q.fo {S : za_S} (h : zs_Q S) {k : Nat} (hk : k < S.1 0 2 0) : S.1 9 k 0 < S.1 0 1 0 := h.2.2.2.2.2.2.2.2.2.2.1 k hk
theorem zs_Q.z {S : za_S} (h : zs_Q S) (a : Nat) : S.1 1 a 0 ≤ 9999 ∧ S.1 2 a 0 ≤ 3 ∧ S.1 3 a 0 ≤ 99 ∧ S.1 8 a 0 ≤ 1 := h.2.2.2.2.2.2.2.2.2.2.2.1 a
theorem zs_Q.t {S : za_S} (h : zs_Q S) : S.1 0 3 0 ≤ 2000 ∧ S.1 7 8 0 ≤ 6 * S.1 0 3 0 ∧ ∀ k, k < 8 → S.1 7 k 0 ≤ S.1 0 3 0 := h.2.2.2.2.2.2.2.2.2.2.2.2.1
theorem zs_Q.rz {S : za_S} (h : zs_Q S) {k j : Nat} (hj : S.1 7 k 0 ≤ j) : S.2 5 k j = some 0 := h.2.2.2.2.2.2.2.2.2.2.2.2.2.1 k j hj
theorem zs_Q.pl {S : za_S} (h : zs_Q S) {a r : Nat} (ha : a < S.1 0 0 0) (e : S.2 0 a 0 = some r) : zs_pl S r a < S.1 5 r 0 := by
  obtain ⟨j, h1, h2⟩ := h.at ha e
  exact zs_fd_lt h1 h2
/-- .. and pins are within a room -/
def zs_I (S : za_S) : Prop := zs_Q S ∧ ∀ a q, a < S.1 0 0 0 → S.2 1 a 0 = some q → S.2 0 a 0 ≠ none ∧ S.2 0 q 0 = S.2 0 a 0
theorem zs_I.B {S : za_S} (h : zs_I S)  : zs_B S := h.1.B 
theorem zs_I.c {S : za_S} (h : zs_I S)  : S.1 0 0 0 ≤ 10 ∧ S.1 0 1 0 ≤ 6 ∧ S.1 0 2 0 ≤ 8 := h.1.c 
theorem zs_I.sz {S : za_S} (h : zs_I S) (r : Nat) : S.1 5 r 0 ≤ 10 := h.1.sz r
theorem zs_I.ro {S : za_S} (h : zs_I S) {a r : Nat} (ha : a < S.1 0 0 0) (e : S.2 0 a 0 = some r) : r < S.1 0 1 0 := h.1.ro ha e
theorem zs_I.at {S : za_S} (h : zs_I S) {a r : Nat} (ha : a < S.1 0 0 0) (e : S.2 0 a 0 = some r) : ∃ j, j < S.1 5 r 0 ∧ S.2 2 r j = some a := h.1.at ha e
theorem zs_I.oc {S : za_S} (h : zs_I S) {r j : Nat} (hj : j < S.1 5 r 0) : ∃ a, a < S.1 0 0 0 ∧ S.2 2 r j = some a ∧ S.2 0 a 0 = some r := h.1.oc hj
theorem zs_I.un {S : za_S} (h : zs_I S) {r j k : Nat} (hj : j < S.1 5 r 0) (hk : k < S.1 5 r 0) (e : S.2 2 r j = S.2 2 r k) : j = k := h.1.un hj hk e
theorem zs_I.pe {S : za_S} (h : zs_I S) (r i x : Nat) (e : S.2 2 r i = some x) : x < S.1 0 0 0 := h.1.pe r i x e
theorem zs_I.sp {S : za_S} (h : zs_I S) {r x : Nat} (hr : r < S.1 0 1 0) (e : S.2 3 r 0 = some x) : x < S.1 0 0 0 ∧ S.2 0 x 0 = some r := h.1.sp hr e
theorem zs_I.ch {S : za_S} (h : zs_I S) {r x : Nat} (hr : r < S.1 0 1 0) (e : S.2 4 r 0 = some x) : x < S.1 0 0 0 := h.1.ch hr e
theorem zs_I.pi {S : za_S} (h : zs_I S) {a q : Nat} (ha : a < S.1 0 0 0) (e : S.2 1 a 0 = some q) : q < S.1 0 0 0 ∧ q ≠ a := h.1.pi ha e
theorem zs_I.fo {S : za_S} (h : zs_I S) {k : Nat} (hk : k < S.1 0 2 0) : S.1 9 k 0 < S.1 0 1 0 := h.1.fo hk
theorem zs_I.z {S : za_S} (h : zs_I S) (a : Nat) : S.1 1 a 0 ≤ 9999 ∧ S.1 2 a 0 ≤ 3 ∧ S.1 3 a 0 ≤ 99 ∧ S.1 8 a 0 ≤ 1 := h.1.z a
theorem zs_I.t {S : za_S} (h : zs_I S)  : S.1 0 3 0 ≤ 2000 ∧ S.1 7 8 0 ≤ 6 * S.1 0 3 0 ∧ ∀ k, k < 8 → S.1 7 k 0 ≤ S.1 0 3 0 := h.1.t 
theorem zs_I.rz {S : za_S} (h : zs_I S) {k j : Nat} (hj : S.1 7 k 0 ≤ j) : S.2 5 k j = some 0 := h.1.rz hj
theorem zs_I.pl {S : za_S} (h : zs_I S) {a r : Nat} (ha : a < S.1 0 0 0) (e : S.2 0 a 0 = some r) : zs_pl S r a < S.1 5 r 0 := h.1.pl ha e
theorem zs_I.pp {S : za_S} (h : zs_I S) {a q : Nat} (ha : a < S.1 0 0 0) (e : S.2 1 a 0 = some q) : S.2 0 a 0 ≠ none ∧ S.2 0 q 0 = S.2 0 a 0 := h.2 a q ha e

/-! ### what was left: pins, pigeonholes -/
theorem zs_ph : ∀ (m n : Nat) (f : Nat → Nat), (∀ j, j < n → f j < m) → (∀ j k, j < n → k < n → f j = f k → j = k) → n ≤ m
  | 0, n, f, h, _ => by
    cases n with
    | zero => exact Nat.le_refl _
    | succ n => exact absurd (h 0 (by omega)) (Nat.not_lt_zero _)
  | m + 1, n, f, h, hi => by
    by_cases q : ∃ j, j < n ∧ f j = m
    · obtain ⟨j0, h0, e0⟩ := q
      have := zs_ph m (n - 1) (fun j => f (if j = j0 then n - 1 else j)) (fun j hj => by
        show f (if j = j0 then n - 1 else j) < m
        by_cases e : j = j0
        · rw [if_pos e]
          have h1 := h (n - 1) (by omega)
          have h2 : f (n - 1) ≠ m := fun z => by have := hi (n - 1) j0 (by omega) h0 (by rw [z, e0]); omega
          omega
        · rw [if_neg e]
          have h1 := h j (by omega)
          have h2 : f j ≠ m := fun z => e (hi j j0 (by omega) h0 (by rw [z, e0]))
          omega) (fun j k hj hk e => by
        have e' : f (if j = j0 then n - 1 else j) = f (if k = j0 then n - 1 else k) := e
        by_cases e1 : j = j0
        · by_cases e2 : k = j0
          · omega
          · rw [if_pos e1, if_neg e2] at e'
            have := hi (n - 1) k (by omega) (by omega) e'
            omega
        · by_cases e2 : k = j0
          · rw [if_neg e1, if_pos e2] at e'
            have := hi j (n - 1) (by omega) (by omega) e'
            omega
          · rw [if_neg e1, if_neg e2] at e'
            exact hi j k (by omega) (by omega) e')
      omega
    · have := zs_ph m n f (fun j hj => by
        have h1 := h j hj
        have h2 : f j ≠ m := fun z => q ⟨j, hj, z⟩
        omega) hi
      omega
theorem zs_ph1 {m n p : Nat} (f : Nat → Nat) (hp : p < m) (h : ∀ j, j < n → f j < m ∧ f j ≠ p) (hi : ∀ j k, j < n → k < n → f j = f k → j = k) : n + 1 ≤ m := by
  refine zs_ph m (n + 1) (fun j => if j < n then f j else p) (fun j hj => ?_) (fun j k hj hk e => ?_)
  · show (if j < n then f j else p) < m
    split
    next q => exact (h j q).1
    next => exact hp
  · have e' : (if j < n then f j else p) = (if k < n then f k else p) := e
    by_cases e1 : j < n
    · by_cases e2 : k < n
      · rw [if_pos e1, if_pos e2] at e'
        exact hi j k e1 e2 e'
      · rw [if_pos e1, if_neg e2] at e'
        exact absurd e' (h j e1).2
    · by_cases e2 : k < n
      · rw [if_neg e1, if_pos e2] at e'
        exact absurd e'.symm (h k e2).2
      · omega
theorem zs_Q_lt {S : za_S} (h : zs_Q S) {p t : Nat} (hp : p < S.1 0 0 0) (hn : S.2 0 p 0 ≠ some t) : S.1 5 t 0 < 10 := by
  have := zs_ph1 (m := S.1 0 0 0) (n := S.1 5 t 0) (p := p) (fun j => (S.2 2 t j).getD 0) hp (fun j hj => by
    obtain ⟨a, h1, h2, h3⟩ := h.oc hj
    show (S.2 2 t j).getD 0 < _ ∧ (S.2 2 t j).getD 0 ≠ p
    rw [h2]
    exact ⟨h1, fun e => hn (by rw [← e]; exact h3)⟩) (fun j k hj hk e => by
    obtain ⟨a, -, h2, -⟩ := h.oc hj
    obtain ⟨c, -, g2, -⟩ := h.oc hk
    have e' : (S.2 2 t j).getD 0 = (S.2 2 t k).getD 0 := e
    rw [h2, g2] at e'
    have e9 : a = c := e'
    exact h.un hj hk (by rw [h2, g2, e9]))
  have := h.c.1
  omega
def zs_di (L : List Nat) : Prop := ∀ (j k x : Nat), L[j]? = some x → L[k]? = some x → j = k
theorem zs_di_ap {L : List Nat} {x : Nat} (h : zs_di L) (hx : x ∉ L) : zs_di (L ++ [x]) := by
  have key : ∀ (j y : Nat), (L ++ [x])[j]? = some y → (j < L.length ∧ L[j]? = some y) ∨ (j = L.length ∧ y = x) := fun j y e => by
    rw [List.getElem?_append] at e
    split at e
    next q => exact Or.inl ⟨q, e⟩
    next q =>
      by_cases z : j - L.length = 0
      · rw [z] at e
        cases e
        exact Or.inr ⟨by omega, rfl⟩
      · rw [List.getElem?_eq_none (by simp; omega)] at e
        cases e
  intro j k y e1 e2
  rcases key j y e1 with ⟨a1, a2⟩ | ⟨a1, a2⟩
  · rcases key k y e2 with ⟨b1, b2⟩ | ⟨b1, b2⟩
    · exact h j k y a2 b2
    · subst b2
      exact absurd (List.mem_of_getElem? a2) hx
  · rcases key k y e2 with ⟨b1, b2⟩ | ⟨b1, b2⟩
    · subst a2
      exact absurd (List.mem_of_getElem? b2) hx
    · omega
theorem zs_di_len {L : List Nat} {v m : Nat} (h : zs_di L) (hv : v < m) (hm : ∀ x, x ∈ L → x < m ∧ x ≠ v) : L.length + 1 ≤ m :=
  zs_ph1 (fun j => (L[j]?).getD 0) hv (fun j hj => by
    have e : L[j]? = some L[j] := List.getElem?_eq_getElem hj
    show (L[j]?).getD 0 < m ∧ (L[j]?).getD 0 ≠ v
    rw [e]
    exact hm _ (List.getElem_mem hj)) (fun j k hj hk e => by
    have e1 : L[j]? = some L[j] := List.getElem?_eq_getElem hj
    have e2 : L[k]? = some L[k] := List.getElem?_eq_getElem hk
    have e' : (L[j]?).getD 0 = (L[k]?).getD 0 := e
    rw [e1, e2] at e'
    have e9 : L[j] = L[k] := e'
    exact h j k _ e1 (by rw [e2, e9]))
theorem zs_ap_m {o : Option Nat} {v x : Nat} {L : List Nat} (h : x ∈ zs_ap o v L) : x ∈ L ∨ (o = some x ∧ x ≠ v) := by
  unfold zs_ap at h
  split at h
  next => exact Or.inl h
  next y =>
    split at h
    next q =>
      rcases List.mem_append.mp h with g | g
      · exact Or.inl g
      · rw [List.mem_singleton.mp g]
        exact Or.inr ⟨rfl, q⟩
    next => exact Or.inl h
theorem zs_ap_d {o : Option Nat} {v : Nat} {L : List Nat} (h : zs_di L) (hx : ∀ x, o = some x → x ∉ L) : zs_di (zs_ap o v L) := by
  unfold zs_ap
  split
  next => exact h
  next y =>
    split
    next q => exact zs_di_ap h (hx y rfl)
    next => exact h
theorem zs_rest_f {S : za_S} (h : zs_Q S) (v r : Nat) : ∀ i, i ≤ S.1 5 r 0 → zs_di (zs_rest S v r i) ∧ ∀ x, x ∈ zs_rest S v r i → x ≠ v ∧ (zs_first S v r = some x ∨ ∃ j, j < i ∧ S.2 2 r j = some x)
  | 0, _ => by
    unfold zs_rest
    refine ⟨zs_ap_d (fun j k x e => by cases e) (fun x _ q => by cases q), fun x hx => ?_⟩
    rcases zs_ap_m hx with g | ⟨g1, g2⟩
    · cases g
    · exact ⟨g2, Or.inl g1⟩
  | i + 1, hi => by
    obtain ⟨h1, h2⟩ := zs_rest_f h v r i (by omega)
    unfold zs_rest
    split
    next q =>
      refine ⟨h1, fun x hx => ?_⟩
      obtain ⟨a, b⟩ := h2 x hx
      refine ⟨a, ?_⟩
      rcases b with b | ⟨j, b1, b2⟩
      · exact Or.inl b
      · exact Or.inr ⟨j, by omega, b2⟩
    next q =>
      refine ⟨zs_ap_d h1 (fun x e hm => ?_), fun x hx => ?_⟩
      · obtain ⟨-, b⟩ := h2 x hm
        rcases b with b | ⟨j, b1, b2⟩
        · exact q (by rw [e, b])
        · have := h.un (r := r) (j := j) (k := i) (by omega) (by omega) (by rw [b2, e])
          omega
      · rcases zs_ap_m hx with g | ⟨g1, g2⟩
        · obtain ⟨a, b⟩ := h2 x g
          refine ⟨a, ?_⟩
          rcases b with b | ⟨j, b1, b2⟩
          · exact Or.inl b
          · exact Or.inr ⟨j, by omega, b2⟩
        · exact ⟨g2, Or.inr ⟨i, by omega, g1⟩⟩
theorem zs_I_Va {S : za_S} (h : zs_I S) : zs_Va S := by
  intro v hv
  have hf : ∀ r x, S.2 0 v 0 = some r → zs_first S v r = some x → x < S.1 0 0 0 := fun r x e1 e2 => by
    unfold zs_first at e2
    split at e2
    next y e => cases e2; exact (h.pi hv e).1
    next => exact (h.sp (h.ro hv e1) e2).1
  have hc := h.c
  refine ⟨hv, fun r e => h.ro hv e, h.pe, hf, fun r i e hi => ?_, fun r _ => h.sz r, hc.1⟩
  obtain ⟨a, b⟩ := zs_rest_f h.1 v r i hi
  have := zs_di_len a hv (fun x hx => by
    obtain ⟨b1, b2⟩ := b x hx
    refine ⟨?_, b1⟩
    rcases b2 with b2 | ⟨j, -, b2⟩
    · exact hf r x e b2
    · exact h.pe r j x b2)
  omega
theorem zs_I_pin' {S : za_S} (h : zs_I S) {p : Nat} {o : Option Nat} (ho : ∀ q, o = some q → q < S.1 0 0 0 ∧ q ≠ p ∧ S.2 0 p 0 ≠ none ∧ S.2 0 q 0 = S.2 0 p 0) : zs_I (za_P S 1 p 0 o) := by
  obtain ⟨⟨g1, g2, g3, g4, g5, g6, g7, g8, g9, g10, g11, g12, g13, g14, g15, g16, g17⟩, g⟩ := h
  have e1 : ∀ a, (za_P S 1 p 0 o).2 1 a 0 = if a = p then o else S.2 1 a 0 := fun a => by
    rw [za_P2]
    by_cases q : a = p
    · rw [if_pos ⟨rfl, q, rfl⟩, if_pos q]
    · rw [if_neg (by omega), if_neg q]
  refine ⟨⟨g1, g2, g3, g4, g5, g6, g7, g8, g9, fun a q ha e => ?_, g11, g12, g13, g14, g15, g16, g17⟩, fun a q ha e => ?_⟩
  · rw [e1] at e
    split at e
    next z => subst z; exact ⟨(ho q e).1, (ho q e).2.1⟩
    next z => exact g10 a q ha e
  · rw [e1] at e
    split at e
    next z => subst z; exact (ho q e).2.2
    next z => exact g a q ha e
theorem zs_I_pin0 {S : za_S} (h : zs_I S) {p q : Nat} (hp : p < S.1 0 0 0) (hq : q < S.1 0 0 0) (hn : p ≠ q) (ht : zs_tg S (some p) (some q) = true) : zs_I (za_P S 1 p 0 (some q)) :=
  zs_I_pin' h (fun x e => by
    cases e
    have := of_decide_eq_true ht
    exact ⟨hq, fun z => hn z.symm, this.1, this.2.symm⟩)
theorem zs_I_unpin0 {S : za_S} (h : zs_I S) {p : Nat} (hp : p < S.1 0 0 0) : zs_I (za_P S 1 p 0 none) := zs_I_pin' h (fun x e => by cases e)
theorem zs_W_st0 {S : za_S} (h : zs_Q S) : zs_I (zs_st S 10) := by
  obtain ⟨g1, g2, g3, g4, g5, g6, g7, g8, g9, g10, g11, g12, g13, g14, g15, g16, g17⟩ := h
  have e2 : ∀ c i j, c ≠ 1 → (zs_st S 10).2 c i j = S.2 c i j := fun c i j q => if_neg (fun z => q z.1)
  have f2 : ∀ c, c ≠ 1 → (zs_st S 10).2 c = S.2 c := fun c q => funext fun i => funext fun j => e2 c i j q
  have e1 : ∀ a q, a < S.1 0 0 0 → (zs_st S 10).2 1 a 0 = some q → S.2 1 a 0 = some q ∧ zs_tg S (some a) (some q) = true := fun a q ha e => by
    have e' : (if (1 : Nat) = 1 ∧ (0 : Nat) = 0 ∧ a < 10 ∧ a < S.1 0 0 0 ∧ zs_tg S (some a) (S.2 1 a 0) = false then none else S.2 1 a 0) = some q := e
    split at e'
    next => cases e'
    next z =>
      refine ⟨e', ?_⟩
      cases hz : zs_tg S (some a) (some q) with
      | true => rfl
      | false => exact absurd ⟨rfl, rfl, by have := g2.1; omega, ha, by rw [e']; exact hz⟩ z
  refine ⟨⟨g1, g2, g3, ?_, ?_, ?_, ?_, ?_, ?_, fun a q ha e => g10 a q ha (e1 a q ha e).1, g11, g12, g13, ?_, g15, ?_, g17⟩, fun a q ha e => ?_⟩
  · rw [f2 0 (by decide), f2 2 (by decide)]; exact g4
  · rw [f2 0 (by decide), f2 2 (by decide)]; exact g5
  · rw [f2 2 (by decide)]; exact g6
  · rw [f2 2 (by decide)]; exact g7
  · rw [f2 0 (by decide), f2 3 (by decide)]; exact g8
  · rw [f2 4 (by decide)]; exact g9
  · rw [f2 5 (by decide)]; exact g14
  · rw [f2 2 (by decide)]; exact g16
  · have := of_decide_eq_true (e1 a q ha e).2
    rw [f2 0 (by decide)]
    exact ⟨this.1, this.2.symm⟩
theorem zs_I.Va {S : za_S} (h : zs_I S) : zs_Va S := zs_I_Va h
/-- the lookups of the class's own: what a call may ask -/
def zs_R (S X : za_S) : Prop := ∀ k, (k < S.1 0 2 0 ∨ k = 8) → S.1 7 k 0 ≤ X.1 4 k 0 ∧ X.1 4 k 0 ≤ (if k = 8 then 12000 else 2000) ∧ 16 ≤ X.1 4 k 0
def zs_C (S X : za_S) : Prop := zs_I S ∧ zs_J S X ∧ zs_B X ∧ zs_ok S X ∧ zs_R S X

def zo_set (S : za_S) (p v mx : Nat) : Nat := if ¬ p < S.1 0 0 0 then 1 else if ¬ v ≤ mx then 2 else 0
/-- lists of people don't hang on budgets, layers that are sent, loudness -/
theorem zs_rest_N (S : za_S) (v r : Nat) {c : Nat} (a n : Nat) : ∀ i, zs_rest (za_N S c a 0 n) v r i = zs_rest S v r i
  | 0 => rfl
  | i + 1 => by
    unfold zs_rest
    rw [zs_rest_N S v r a n i]
    rfl
theorem zs_Va_N {S : za_S} (h : zs_I S) (c : Nat) (hc : c ≠ 0 ∧ c ≠ 5) (a n : Nat) : zs_Va (za_N S c a 0 n) := by
  have e0 : ∀ i, (za_N S c a 0 n).1 0 i 0 = S.1 0 i 0 := fun i => if_neg (fun q => hc.1 q.1.symm)
  have e5 : ∀ i, (za_N S c a 0 n).1 5 i 0 = S.1 5 i 0 := fun i => if_neg (fun q => hc.2 q.1.symm)
  intro v hv
  rw [e0] at hv
  obtain ⟨g1, g2, g3, g4, g5, g6, g7⟩ := h.Va v hv
  refine ⟨by rw [e0]; exact g1, by rw [e0]; exact g2, by rw [e0]; exact g3, by rw [e0]; exact g4, fun r i e hi => ?_, fun r e => by rw [e5]; exact g6 r e, by rw [e0]; exact g7⟩
  rw [e5] at hi
  rw [zs_rest_N]
  exact g5 r i e hi

def zo_p (S : za_S) (p : Nat) : Nat := if ¬ p < S.1 0 0 0 then 1 else 0
def zo_pp (S : za_S) (p q : Nat) : Nat := if ¬ p < S.1 0 0 0 then 1 else if ¬ q < S.1 0 0 0 then 1 else 0
def zo_r (S : za_S) (r : Nat) : Nat := if ¬ r < S.1 0 1 0 then 1 else 0
def zo_k (S : za_S) (k : Nat) : Nat := if ¬ k < S.1 0 2 0 then 1 else 0
def zo_po (S : za_S) (p c : Nat) : Nat := if ¬ p < S.1 0 0 0 then 1 else if S.2 c p 0 = none then 2 else 0
def zo_rs (S : za_S) (r : Nat) : Nat := if ¬ r < S.1 0 1 0 then 1 else if S.2 3 r 0 = none then 2 else 0
def zo_ra (S : za_S) (r i : Nat) : Nat := if ¬ r < S.1 0 1 0 then 1 else if zs_at S r i = none then 2 else 0
def zo_ks (S : za_S) (k : Nat) : Nat := if ¬ k < S.1 0 2 0 then 1 else if S.1 8 k 0 ≠ 0 then 2 else 0
def zo_kn (S : za_S) (k i : Nat) : Nat := if ¬ k < S.1 0 2 0 then 1 else if ¬ i < S.1 7 k 0 then 2 else 0
theorem zs_at_v {S : za_S} (h : zs_I S) {r i x : Nat} (e : zs_at S r i = some x) : x < S.1 0 0 0 := by
  unfold zs_at at e
  split at e
  · exact h.pe _ _ _ e
  · cases e
def zo_t (S : za_S) (i : Nat) : Nat := if ¬ i < S.1 7 8 0 then 1 else 0
def zo_pin (S : za_S) (p q : Nat) : Nat := if ¬ p < S.1 0 0 0 then 1 else if ¬ q < S.1 0 0 0 then 1 else if p = q then 2 else if zs_tg S (some p) (some q) = false then 3 else 0
def zo_en (S : za_S) (p r : Nat) : Nat := if ¬ p < S.1 0 0 0 then 1 else if ¬ r < S.1 0 1 0 then 2 else if S.2 0 p 0 = some r then 3 else 0
def zo_he (S : za_S) (p q : Nat) : Bool := decide (p ≠ q) && (zs_tg S (some p) (some q) && decide (10 ≤ S.1 3 q 0))
theorem zo_he_t {S : za_S} {p q : Nat} (h1 : p ≠ q) (h2 : zs_tg S (some p) (some q) = true) (h3 : 10 ≤ S.1 3 q 0) : zo_he S p q = true := by
  unfold zo_he
  rw [decide_eq_true h1, h2, decide_eq_true h3]
  rfl
theorem zo_he_1 {S : za_S} {p q : Nat} (h3 : S.1 3 q 0 < 10) : zo_he S p q = false := by
  unfold zo_he
  rw [decide_eq_false (by omega : ¬ 10 ≤ S.1 3 q 0), Bool.and_false, Bool.and_false]
theorem zo_he_2 {S : za_S} {p q : Nat} (h2 : zs_tg S (some p) (some q) = false) : zo_he S p q = false := by
  unfold zo_he
  rw [h2, Bool.false_and, Bool.and_false]
theorem zo_he_3 {S : za_S} {p q : Nat} (h1 : p = q) : zo_he S p q = false := by
  unfold zo_he
  rw [decide_eq_false (fun h => h h1), Bool.false_and]
def zs_vc (S : za_S) (q n : Nat) : Nat := zs_sum (fun v => if v < S.1 0 0 0 ∧ 1 ≤ (zs_ch S v).1 q then 1 else 0) n
theorem zs_vc_le (S : za_S) (q n : Nat) : zs_vc S q n ≤ n * 1 := zs_sum_le _ 1 (fun v => by show (if _ then _ else _) ≤ _; split <;> omega) n
theorem zs_I_pin {S : za_S} (h : zs_I S) {p q : Nat} (hp : p < S.1 0 0 0) (hq : q < S.1 0 0 0) (hn : p ≠ q) (ht : zs_tg S (some p) (some q) = true) : zs_I (za_P S 1 p 0 (some q)) := zs_I_pin0 h hp hq hn ht
theorem zs_I_unpin {S : za_S} (h : zs_I S) {p : Nat} (hp : p < S.1 0 0 0) : zs_I (za_P S 1 p 0 none) := zs_I_unpin0 h hp
