
theorem zs_out_ff {S : za_S} {r p k : Nat} (h3 : S.2 3 r 0 ≠ some p) (h4 : S.2 4 r 0 ≠ some p) : zs_out S r p k = (za_N (zs_sh S r k (S.1 5 r 0 - 1)) 5 r 0 (S.1 5 r 0 - 1)) := by
  unfold zs_out
  rw [if_neg h3, if_neg h4, if_neg h4]
  have e1 := za_Pid (za_N (zs_sh S r k (S.1 5 r 0 - 1)) 5 r 0 (S.1 5 r 0 - 1)) 3 r 0 (S.2 3 r 0) rfl
  rw [e1]
  have e2 := za_Nid (za_N (zs_sh S r k (S.1 5 r 0 - 1)) 5 r 0 (S.1 5 r 0 - 1)) 6 r 0 (S.1 6 r 0) rfl
  rw [e2]
  exact za_Pid (za_N (zs_sh S r k (S.1 5 r 0 - 1)) 5 r 0 (S.1 5 r 0 - 1)) 4 r 0 (S.2 4 r 0) rfl
theorem zs_out_tf {S : za_S} {r p k : Nat} (h3 : S.2 3 r 0 = some p) (h4 : S.2 4 r 0 ≠ some p) : zs_out S r p k = za_P (za_N (zs_sh S r k (S.1 5 r 0 - 1)) 5 r 0 (S.1 5 r 0 - 1)) 3 r 0 none := by
  unfold zs_out
  rw [if_pos h3, if_neg h4, if_neg h4]
  have e2 := za_Nid (za_P (za_N (zs_sh S r k (S.1 5 r 0 - 1)) 5 r 0 (S.1 5 r 0 - 1)) 3 r 0 none) 6 r 0 (S.1 6 r 0) rfl
  rw [e2]
  exact za_Pid (za_P (za_N (zs_sh S r k (S.1 5 r 0 - 1)) 5 r 0 (S.1 5 r 0 - 1)) 3 r 0 none) 4 r 0 (S.2 4 r 0) rfl
theorem zs_out_ft {S : za_S} {r p k : Nat} (h3 : S.2 3 r 0 ≠ some p) (h4 : S.2 4 r 0 = some p) : zs_out S r p k = zs_end (za_N (zs_sh S r k (S.1 5 r 0 - 1)) 5 r 0 (S.1 5 r 0 - 1)) r := by
  unfold zs_out
  rw [if_neg h3, if_pos h4, if_pos h4]
  have e1 := za_Pid (za_N (zs_sh S r k (S.1 5 r 0 - 1)) 5 r 0 (S.1 5 r 0 - 1)) 3 r 0 (S.2 3 r 0) rfl
  rw [e1]
  rfl
theorem zs_out_tt {S : za_S} {r p k : Nat} (h3 : S.2 3 r 0 = some p) (h4 : S.2 4 r 0 = some p) : zs_out S r p k = zs_end (za_P (za_N (zs_sh S r k (S.1 5 r 0 - 1)) 5 r 0 (S.1 5 r 0 - 1)) 3 r 0 none) r := by
  unfold zs_out
  rw [if_pos h3, if_pos h4, if_pos h4]
  rfl
theorem zs_first_one {g : Nat → Option Nat} {p a b : Nat} (ha : g a = some p) (ha2 : ∀ j, j < a → g j ≠ some p) (hb : g b = some p) (hb2 : ∀ j, j < b → g j ≠ some p) : a = b := by
  rcases Nat.lt_trichotomy a b with h | h | h
  · exact absurd ha (hb2 a h)
  · exact h
  · exact absurd hb (ha2 b h)
theorem zs_loud_v {S : za_S} {r c0 : Nat} (h : ∀ i x, S.2 2 r i = some x → x < c0) : ∀ n x, zs_loud S r n = some x → x < c0
  | 0, x, e => by cases e
  | n + 1, x, e => by
    unfold zs_loud at e
    cases hp : S.2 2 r n with
    | none =>
      simp only [hp] at e
      exact zs_loud_v h n x e
    | some p =>
      simp only [hp] at e
      cases hq : zs_loud S r n with
      | none =>
        simp only [hq] at e
        cases e
        exact h n x hp
      | some q =>
        simp only [hq] at e
        by_cases hc : S.1 3 q 0 < S.1 3 p 0
        · rw [if_pos hc] at e
          cases e
          exact h n x hp
        · rw [if_neg hc] at e
          cases e
          exact zs_loud_v h n x hq
theorem zs_cand_v {S : za_S} {r c0 : Nat} (h : ∀ i x, S.2 2 r i = some x → x < c0) : ∀ x, zs_cand S r = some x → x < c0 := by
  intro x e
  unfold zs_cand at e
  cases hp : zs_loud S r (S.1 5 r 0) with
  | none =>
    simp only [hp] at e
    cases e
  | some p =>
    simp only [hp] at e
    by_cases hc : 10 ≤ S.1 3 p 0
    · rw [if_pos hc] at e
      cases e
      exact zs_loud_v h _ _ hp
    · rw [if_neg hc] at e
      cases e
