
theorem zs_J_c {S S' X : za_S} (h : zs_J S X) (e : S'.1 0 = S.1 0) : zs_J S' X := by
  obtain ⟨h1, h2, h3, h4, h5, h6, h7, h8, h9⟩ := h
  exact ⟨by rw [e]; exact h1, by rw [e]; exact h2, by rw [e]; exact h3, by rw [e]; exact h4, by rw [e]; exact h5, by rw [e]; exact h6, by rw [e]; exact h7, by rw [e]; exact h8, by rw [e]; exact h9⟩
theorem zs_out_c (S : za_S) (r p k : Nat) : (zs_out S r p k).1 0 = S.1 0 := by
  funext a b
  simp [zs_out, za_N, za_P, zs_sh]
theorem zs_mo_c (S : za_S) (p : Nat) : (zs_mo S p).1 0 = S.1 0 := by
  unfold zs_mo
  split
  · rfl
  · exact zs_out_c _ _ _ _
theorem zs_in_c (S : za_S) (r p : Nat) : (zs_in S r p).1 0 = S.1 0 := by
  funext a b
  simp [zs_in, za_N, za_P]
theorem zs_mv_c (S : za_S) (p : Nat) (q : Option Nat) : (zs_mv S p q).1 0 = S.1 0 := by
  unfold zs_mv zs_mi
  split
  · exact zs_mo_c S p
  · rw [zs_in_c]
    exact zs_mo_c S p
theorem zs_W_mv {S : za_S} (h : zs_Q S) {p : Nat} (hp : p < S.1 0 0 0) {q : Option Nat} (hq : ∀ t, q = some t → t < S.1 0 1 0) (hn : S.2 0 p 0 ≠ q) : zs_Q (zs_mv S p q) := sorry
theorem zs_W_st {S : za_S} (h : zs_Q S) : zs_I (zs_st S 10) := sorry
/-- a room without p has place for p -/
theorem zs_Q.lt {S : za_S} (h : zs_Q S) {p t : Nat} (hp : p < S.1 0 0 0) (hn : S.2 0 p 0 ≠ some t) : S.1 5 t 0 < 10 := sorry
theorem zs_mo_5 {S : za_S} {p t : Nat} (hn : S.2 0 p 0 ≠ some t) : (zs_mo S p).1 5 t 0 = S.1 5 t 0 := by
  unfold zs_mo
  cases e : S.2 0 p 0 with
  | none => rfl
  | some r =>
    have hr : ¬ t = r := fun h => hn (by rw [e, h])
    simp [zs_out, za_N, za_P, zs_sh, hr]
theorem zs_out_B {S : za_S} (h : zs_B S) (r p k : Nat) : zs_B (zs_out S r p k) := by
  intro c i j
  have h1 := h c i j
  have h2 := h 5 r 0
  have h3 := h 6 r 0
  simp only [zs_out, za_P1, za_N1, zs_sh]
  (repeat' split) <;> omega
theorem zs_mo_B {S : za_S} (h : zs_B S) (p : Nat) : zs_B (zs_mo S p) := by
  unfold zs_mo
  split
  · exact h
  · exact zs_out_B h _ _ _
theorem zs_Q.mro {S X : za_S} (h : zs_Q S) (hJ : zs_J S X) {p : Nat} (hp : p < S.1 0 0 0) : ∀ r, S.2 0 p 0 = some r → r < X.1 5 1 0 ∧ S.1 5 r 0 ≤ 10 ∧ (∀ j, j < S.1 5 r 0 → ∃ x, S.2 2 r j = some x) ∧ (∀ x, S.2 3 r 0 = some x → x < X.1 5 0 0) ∧ (∀ x, S.2 4 r 0 = some x → x < X.1 5 0 0) ∧ zs_pl S r p < S.1 5 r 0 := fun r e =>
  ⟨hJ.ro (h.ro hp e), h.sz r, fun j hj => by obtain ⟨a, -, h2, -⟩ := h.oc hj; exact ⟨a, h2⟩, fun x hx => hJ.pe (h.sp (h.ro hp e) hx).1, fun x hx => hJ.pe (h.ch (h.ro hp e) hx), h.pl hp e⟩
theorem zs_Q.mto {S X : za_S} (h : zs_Q S) (hJ : zs_J S X) {p : Nat} (hp : p < S.1 0 0 0) {q : Option Nat} (hq : ∀ t, q = some t → t < S.1 0 1 0) (hn : S.2 0 p 0 ≠ q) : ∀ t, q = some t → t < X.1 5 1 0 ∧ (zs_mo S p).1 5 t 0 < 10 := fun t e => by
  subst e
  exact ⟨hJ.ro (hq t rfl), by rw [zs_mo_5 hn]; exact h.lt hp hn⟩
