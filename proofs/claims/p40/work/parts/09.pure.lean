
theorem zs_lt_s {P : Nat → Prop} {i : Nat} (h : ∀ j, j < i → P j) (hi : P i) : ∀ j, j < i + 1 → P j := by
  intro j hj
  rcases Nat.lt_or_ge j i with h1 | h1
  · exact h j h1
  · have e : j = i := by omega
    rw [e]
    exact hi
/-- the first n places of a row of component c, index i, hold f -/
def zs_row (X : za_S) (c i n : Nat) (f : Nat → Nat) : za_S := (fun c' i' j' => if c' = c ∧ i' = i ∧ j' < n then f j' else X.1 c' i' j', X.2)
theorem zs_row_0 (X : za_S) (c i : Nat) (f : Nat → Nat) : zs_row X c i 0 f = X := by
  unfold zs_row
  simp
theorem zs_row_succ (X : za_S) (c i n : Nat) (f : Nat → Nat) : za_N (zs_row X c i n f) c i n (f n) = zs_row X c i (n + 1) f := by
  unfold zs_row za_N
  refine Prod.ext ?_ rfl
  funext c' i' j'
  show (if _ then _ else if _ then _ else _) = if _ then _ else _
  by_cases h1 : c' = c ∧ i' = i
  · obtain ⟨rfl, rfl⟩ := h1
    by_cases h2 : j' = n
    · subst h2
      simp
    · by_cases h3 : j' < n
      · rw [if_neg (fun h => h2 h.2.2), if_pos ⟨rfl, rfl, h3⟩, if_pos ⟨rfl, rfl, by omega⟩]
      · rw [if_neg (fun h => h2 h.2.2), if_neg (fun h => h3 h.2.2), if_neg (fun h => h3 (by have := h.2.2; omega))]
  · rw [if_neg (fun h => h1 ⟨h.1, h.2.1⟩), if_neg (fun h => h1 ⟨h.1, h.2.1⟩), if_neg (fun h => h1 ⟨h.1, h.2.1⟩)]
/-- a sum over the first n numbers -/
def zs_sum (f : Nat → Nat) : Nat → Nat
  | 0 => 0
  | n + 1 => zs_sum f n + f n
theorem zs_need_le (j : Nat) : zs_need j ≤ 1600 := by
  unfold zs_need
  repeat' split
  all_goals omega
theorem zs_sum_le (f : Nat → Nat) (B : Nat) (h : ∀ j, f j ≤ B) : ∀ n, zs_sum f n ≤ n * B
  | 0 => Nat.zero_le _
  | n + 1 => by
    have h1 := zs_sum_le f B h n
    have h2 := h n
    show zs_sum f n + f n ≤ (n + 1) * B
    rw [Nat.succ_mul]
    omega
theorem zs_sum_congr {f g : Nat → Nat} : ∀ n, (∀ j, j < n → f j = g j) → zs_sum f n = zs_sum g n
  | 0, _ => rfl
  | n + 1, h => by
    show zs_sum f n + f n = zs_sum g n + g n
    rw [zs_sum_congr n (fun j hj => h j (by omega)), h n (by omega)]
