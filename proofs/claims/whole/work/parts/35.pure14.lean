
/-! ### what was left: pins, pigeonholes -/
theorem zs_ph : ∀ (m n : Nat) (f : Nat → Nat), (∀ j, j < n → f j < m) → (∀ j k, j < n → k < n → f j = f k → j = k) → n ≤ m
  | 0, n, f, h, _ => by
    cases n with
    | zero => exact Nat.le_refl _
    | succ n => exact absurd (h 0 (by omega)) (Nat.not_lt_zero _)
  | m + 1, n, f, h, hi => by
    by_cases q : ∃ j, j < n ∧ f j = m
    · obtain ⟨j0, h0, e0⟩ := q
      have := zs_ph m (n - 1) (fun j => f (if j = j0 then n - 1 else j)) (fun j hj => by
        show f (if j = j0 then n - 1 else j) < m
        by_cases e : j = j0
        · rw [if_pos e]
          have h1 := h (n - 1) (by omega)
          have h2 : f (n - 1) ≠ m := fun z => by have := hi (n - 1) j0 (by omega) h0 (by rw [z, e0]); omega
          omega
        · rw [if_neg e]
          have h1 := h j (by omega)
          have h2 : f j ≠ m := fun z => e (hi j j0 (by omega) h0 (by rw [z, e0]))
          omega) (fun j k hj hk e => by
        have e' : f (if j = j0 then n - 1 else j) = f (if k = j0 then n - 1 else k) := e
        by_cases e1 : j = j0
        · by_cases e2 : k = j0
          · omega
          · rw [if_pos e1, if_neg e2] at e'
            have := hi (n - 1) k (by omega) (by omega) e'
            omega
        · by_cases e2 : k = j0
          · rw [if_neg e1, if_pos e2] at e'
            have := hi j (n - 1) (by omega) (by omega) e'
            omega
          · rw [if_neg e1, if_neg e2] at e'
            exact hi j k (by omega) (by omega) e')
      omega
    · have := zs_ph m n f (fun j hj => by
        have h1 := h j hj
        have h2 : f j ≠ m := fun z => q ⟨j, hj, z⟩
        omega) hi
      omega
theorem zs_ph1 {m n p : Nat} (f : Nat → Nat) (hp : p < m) (h : ∀ j, j < n → f j < m ∧ f j ≠ p) (hi : ∀ j k, j < n → k < n → f j = f k → j = k) : n + 1 ≤ m := by
  refine zs_ph m (n + 1) (fun j => if j < n then f j else p) (fun j hj => ?_) (fun j k hj hk e => ?_)
  · show (if j < n then f j else p) < m
    split
    next q => exact (h j q).1
    next => exact hp
  · have e' : (if j < n then f j else p) = (if k < n then f k else p) := e
    by_cases e1 : j < n
    · by_cases e2 : k < n
      · rw [if_pos e1, if_pos e2] at e'
        exact hi j k e1 e2 e'
      · rw [if_pos e1, if_neg e2] at e'
        exact absurd e' (h j e1).2
    · by_cases e2 : k < n
      · rw [if_neg e1, if_pos e2] at e'
        exact absurd e'.symm (h k e2).2
      · omega
theorem zs_Q_lt {S : za_S} (h : zs_Q S) {p t : Nat} (hp : p < S.1 0 0 0) (hn : S.2 0 p 0 ≠ some t) : S.1 5 t 0 < 10 := by
  have := zs_ph1 (m := S.1 0 0 0) (n := S.1 5 t 0) (p := p) (fun j => (S.2 2 t j).getD 0) hp (fun j hj => by
    obtain ⟨a, h1, h2, h3⟩ := h.oc hj
    show (S.2 2 t j).getD 0 < _ ∧ (S.2 2 t j).getD 0 ≠ p
    rw [h2]
    exact ⟨h1, fun e => hn (by rw [← e]; exact h3)⟩) (fun j k hj hk e => by
    obtain ⟨a, -, h2, -⟩ := h.oc hj
    obtain ⟨c, -, g2, -⟩ := h.oc hk
    have e' : (S.2 2 t j).getD 0 = (S.2 2 t k).getD 0 := e
    rw [h2, g2] at e'
    have e9 : a = c := e'
    exact h.un hj hk (by rw [h2, g2, e9]))
  have := h.c.1
  omega
def zs_di (L : List Nat) : Prop := ∀ (j k x : Nat), L[j]? = some x → L[k]? = some x → j = k
theorem zs_di_ap {L : List Nat} {x : Nat} (h : zs_di L) (hx : x ∉ L) : zs_di (L ++ [x]) := by
  have key : ∀ (j y : Nat), (L ++ [x])[j]? = some y → (j < L.length ∧ L[j]? = some y) ∨ (j = L.length ∧ y = x) := fun j y e => by
    rw [List.getElem?_append] at e
    split at e
    next q => exact Or.inl ⟨q, e⟩
    next q =>
      by_cases z : j - L.length = 0
      · rw [z] at e
        cases e
        exact Or.inr ⟨by omega, rfl⟩
      · rw [List.getElem?_eq_none (by simp; omega)] at e
        cases e
  intro j k y e1 e2
  rcases key j y e1 with ⟨a1, a2⟩ | ⟨a1, a2⟩
  · rcases key k y e2 with ⟨b1, b2⟩ | ⟨b1, b2⟩
    · exact h j k y a2 b2
    · subst b2
      exact absurd (List.mem_of_getElem? a2) hx
  · rcases key k y e2 with ⟨b1, b2⟩ | ⟨b1, b2⟩
    · subst a2
      exact absurd (List.mem_of_getElem? b2) hx
    · omega
theorem zs_di_len {L : List Nat} {v m : Nat} (h : zs_di L) (hv : v < m) (hm : ∀ x, x ∈ L → x < m ∧ x ≠ v) : L.length + 1 ≤ m :=
  zs_ph1 (fun j => (L[j]?).getD 0) hv (fun j hj => by
    have e : L[j]? = some L[j] := List.getElem?_eq_getElem hj
    show (L[j]?).getD 0 < m ∧ (L[j]?).getD 0 ≠ v
    rw [e]
    exact hm _ (List.getElem_mem hj)) (fun j k hj hk e => by
    have e1 : L[j]? = some L[j] := List.getElem?_eq_getElem hj
    have e2 : L[k]? = some L[k] := List.getElem?_eq_getElem hk
    have e' : (L[j]?).getD 0 = (L[k]?).getD 0 := e
    rw [e1, e2] at e'
    have e9 : L[j] = L[k] := e'
    exact h j k _ e1 (by rw [e2, e9]))
theorem zs_ap_m {o : Option Nat} {v x : Nat} {L : List Nat} (h : x ∈ zs_ap o v L) : x ∈ L ∨ (o = some x ∧ x ≠ v) := by
  unfold zs_ap at h
  split at h
  next => exact Or.inl h
  next y =>
    split at h
    next q =>
      rcases List.mem_append.mp h with g | g
      · exact Or.inl g
      · rw [List.mem_singleton.mp g]
        exact Or.inr ⟨rfl, q⟩
    next => exact Or.inl h
theorem zs_ap_d {o : Option Nat} {v : Nat} {L : List Nat} (h : zs_di L) (hx : ∀ x, o = some x → x ∉ L) : zs_di (zs_ap o v L) := by
  unfold zs_ap
  split
  next => exact h
  next y =>
    split
    next q => exact zs_di_ap h (hx y rfl)
    next => exact h
theorem zs_rest_f {S : za_S} (h : zs_Q S) (v r : Nat) : ∀ i, i ≤ S.1 5 r 0 → zs_di (zs_rest S v r i) ∧ ∀ x, x ∈ zs_rest S v r i → x ≠ v ∧ (zs_first S v r = some x ∨ ∃ j, j < i ∧ S.2 2 r j = some x)
  | 0, _ => by
    unfold zs_rest
    refine ⟨zs_ap_d (fun j k x e => by cases e) (fun x _ q => by cases q), fun x hx => ?_⟩
    rcases zs_ap_m hx with g | ⟨g1, g2⟩
    · cases g
    · exact ⟨g2, Or.inl g1⟩
  | i + 1, hi => by
    obtain ⟨h1, h2⟩ := zs_rest_f h v r i (by omega)
    unfold zs_rest
    split
    next q =>
      refine ⟨h1, fun x hx => ?_⟩
      obtain ⟨a, b⟩ := h2 x hx
      refine ⟨a, ?_⟩
      rcases b with b | ⟨j, b1, b2⟩
      · exact Or.inl b
      · exact Or.inr ⟨j, by omega, b2⟩
    next q =>
      refine ⟨zs_ap_d h1 (fun x e hm => ?_), fun x hx => ?_⟩
      · obtain ⟨-, b⟩ := h2 x hm
        rcases b with b | ⟨j, b1, b2⟩
        · exact q (by rw [e, b])
        · have := h.un (r := r) (j := j) (k := i) (by omega) (by omega) (by rw [b2, e])
          omega
      · rcases zs_ap_m hx with g | ⟨g1, g2⟩
        · obtain ⟨a, b⟩ := h2 x g
          refine ⟨a, ?_⟩
          rcases b with b | ⟨j, b1, b2⟩
          · exact Or.inl b
          · exact Or.inr ⟨j, by omega, b2⟩
        · exact ⟨g2, Or.inr ⟨i, by omega, g1⟩⟩
theorem zs_I_Va {S : za_S} (h : zs_I S) : zs_Va S := by
  intro v hv
  have hf : ∀ r x, S.2 0 v 0 = some r → zs_first S v r = some x → x < S.1 0 0 0 := fun r x e1 e2 => by
    unfold zs_first at e2
    split at e2
    next y e => cases e2; exact (h.pi hv e).1
    next => exact (h.sp (h.ro hv e1) e2).1
  have hc := h.c
  refine ⟨hv, fun r e => h.ro hv e, h.pe, hf, fun r i e hi => ?_, fun r _ => h.sz r, hc.1⟩
  obtain ⟨a, b⟩ := zs_rest_f h.1 v r i hi
  have := zs_di_len a hv (fun x hx => by
    obtain ⟨b1, b2⟩ := b x hx
    refine ⟨?_, b1⟩
    rcases b2 with b2 | ⟨j, -, b2⟩
    · exact hf r x e b2
    · exact h.pe r j x b2)
  omega
theorem zs_I_pin' {S : za_S} (h : zs_I S) {p : Nat} {o : Option Nat} (ho : ∀ q, o = some q → q < S.1 0 0 0 ∧ q ≠ p ∧ S.2 0 p 0 ≠ none ∧ S.2 0 q 0 = S.2 0 p 0) : zs_I (za_P S 1 p 0 o) := by
  obtain ⟨⟨g1, g2, g3, g4, g5, g6, g7, g8, g9, g10, g11, g12, g13, g14, g15, g16, g17⟩, g⟩ := h
  have e1 : ∀ a, (za_P S 1 p 0 o).2 1 a 0 = if a = p then o else S.2 1 a 0 := fun a => by
    rw [za_P2]
    by_cases q : a = p
    · rw [if_pos ⟨rfl, q, rfl⟩, if_pos q]
    · rw [if_neg (by omega), if_neg q]
  refine ⟨⟨g1, g2, g3, g4, g5, g6, g7, g8, g9, fun a q ha e => ?_, g11, g12, g13, g14, g15, g16, g17⟩, fun a q ha e => ?_⟩
  · rw [e1] at e
    split at e
    next z => subst z; exact ⟨(ho q e).1, (ho q e).2.1⟩
    next z => exact g10 a q ha e
  · rw [e1] at e
    split at e
    next z => subst z; exact (ho q e).2.2
    next z => exact g a q ha e
theorem zs_I_pin0 {S : za_S} (h : zs_I S) {p q : Nat} (hp : p < S.1 0 0 0) (hq : q < S.1 0 0 0) (hn : p ≠ q) (ht : zs_tg S (some p) (some q) = true) : zs_I (za_P S 1 p 0 (some q)) :=
  zs_I_pin' h (fun x e => by
    cases e
    have := of_decide_eq_true ht
    exact ⟨hq, fun z => hn z.symm, this.1, this.2.symm⟩)
theorem zs_I_unpin0 {S : za_S} (h : zs_I S) {p : Nat} (hp : p < S.1 0 0 0) : zs_I (za_P S 1 p 0 none) := zs_I_pin' h (fun x e => by cases e)
theorem zs_W_st0 {S : za_S} (h : zs_Q S) : zs_I (zs_st S 10) := by
  obtain ⟨g1, g2, g3, g4, g5, g6, g7, g8, g9, g10, g11, g12, g13, g14, g15, g16, g17⟩ := h
  have e2 : ∀ c i j, c ≠ 1 → (zs_st S 10).2 c i j = S.2 c i j := fun c i j q => if_neg (fun z => q z.1)
  have f2 : ∀ c, c ≠ 1 → (zs_st S 10).2 c = S.2 c := fun c q => funext fun i => funext fun j => e2 c i j q
  have e1 : ∀ a q, a < S.1 0 0 0 → (zs_st S 10).2 1 a 0 = some q → S.2 1 a 0 = some q ∧ zs_tg S (some a) (some q) = true := fun a q ha e => by
    have e' : (if (1 : Nat) = 1 ∧ (0 : Nat) = 0 ∧ a < 10 ∧ a < S.1 0 0 0 ∧ zs_tg S (some a) (S.2 1 a 0) = false then none else S.2 1 a 0) = some q := e
    split at e'
    next => cases e'
    next z =>
      refine ⟨e', ?_⟩
      cases hz : zs_tg S (some a) (some q) with
      | true => rfl
      | false => exact absurd ⟨rfl, rfl, by have := g2.1; omega, ha, by rw [e']; exact hz⟩ z
  refine ⟨⟨g1, g2, g3, ?_, ?_, ?_, ?_, ?_, ?_, fun a q ha e => g10 a q ha (e1 a q ha e).1, g11, g12, g13, ?_, g15, ?_, g17⟩, fun a q ha e => ?_⟩
  · rw [f2 0 (by decide), f2 2 (by decide)]; exact g4
  · rw [f2 0 (by decide), f2 2 (by decide)]; exact g5
  · rw [f2 2 (by decide)]; exact g6
  · rw [f2 2 (by decide)]; exact g7
  · rw [f2 0 (by decide), f2 3 (by decide)]; exact g8
  · rw [f2 4 (by decide)]; exact g9
  · rw [f2 5 (by decide)]; exact g14
  · rw [f2 2 (by decide)]; exact g16
  · have := of_decide_eq_true (e1 a q ha e).2
    rw [f2 0 (by decide)]
    exact ⟨this.1, this.2.symm⟩
