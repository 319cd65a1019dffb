
theorem zs_J.ev {S X : za_S} (h : zs_J S X) (j x : Nat) (e : X.2 1 j 0 = some x) : x < X.1 5 0 0 := by
  have := h.e e
  rw [h.2.2.2.1]
  omega
theorem zs_J.rv {S X : za_S} (h : zs_J S X) (j x : Nat) (e : X.2 2 j 0 = some x) : x < X.1 5 1 0 := by
  have := h.r e
  rw [h.2.2.2.2.1]
  omega
theorem zs_J.kv {S X : za_S} (h : zs_J S X) (j x : Nat) (e : X.2 3 j 0 = some x) : x < X.1 5 2 0 := by
  have := h.k e
  rw [h.2.2.2.2.2.1]
  omega
theorem zs_J.pe {S X : za_S} (h : zs_J S X) {v : Nat} (e : v < S.1 0 0 0) : v < X.1 5 0 0 := by rw [h.2.2.2.1]; exact e
theorem zs_J.ro {S X : za_S} (h : zs_J S X) {v : Nat} (e : v < S.1 0 1 0) : v < X.1 5 1 0 := by rw [h.2.2.2.2.1]; exact e
theorem zs_J.re {S X : za_S} (h : zs_J S X) {v : Nat} (e : v < S.1 0 2 0) : v < X.1 5 2 0 := by rw [h.2.2.2.2.2.1]; exact e
/-- the first place of p among the first n -/
def zs_fd (g : Nat → Option Nat) (p : Nat) : Nat → Nat
  | 0 => 0
  | n + 1 => if zs_fd g p n < n then zs_fd g p n else if g n = some p then n else n + 1
theorem zs_fd_no (g : Nat → Option Nat) (p : Nat) : ∀ n j, j < zs_fd g p n → j < n → g j ≠ some p
  | 0, j, _, h => absurd h (Nat.not_lt_zero _)
  | n + 1, j, h, h2 => by
    unfold zs_fd at h
    by_cases h3 : zs_fd g p n < n
    · rw [if_pos h3] at h
      exact zs_fd_no g p n j h (by omega)
    · rw [if_neg h3] at h
      by_cases h4 : g n = some p
      · rw [if_pos h4] at h
        exact zs_fd_no g p n j (by omega) h
      · rw [if_neg h4] at h
        by_cases h5 : j = n
        · rw [h5]
          exact h4
        · exact zs_fd_no g p n j (by omega) (by omega)
theorem zs_fd_yes (g : Nat → Option Nat) (p : Nat) : ∀ n, zs_fd g p n < n → g (zs_fd g p n) = some p
  | 0, h => absurd h (Nat.not_lt_zero _)
  | n + 1, h => by
    unfold zs_fd at h ⊢
    by_cases h3 : zs_fd g p n < n
    · rw [if_pos h3]
      exact zs_fd_yes g p n h3
    · rw [if_neg h3] at h ⊢
      by_cases h4 : g n = some p
      · rw [if_pos h4]
        exact h4
      · rw [if_neg h4] at h
        omega
theorem zs_fd_le (g : Nat → Option Nat) (p : Nat) : ∀ n, zs_fd g p n ≤ n
  | 0 => Nat.le_refl _
  | n + 1 => by
    have := zs_fd_le g p n
    unfold zs_fd
    split
    · omega
    · split <;> omega
theorem zs_fd_lt {g : Nat → Option Nat} {p n j : Nat} (hj : j < n) (h : g j = some p) : zs_fd g p n < n := by
  rcases Nat.lt_or_ge (zs_fd g p n) n with h1 | h1
  · exact h1
  · exact absurd h (zs_fd_no g p n j (by omega) hj)
def zs_pl (S : za_S) (r p : Nat) : Nat := zs_fd (S.2 2 r) p (S.1 5 r 0)
def zs_mo (S : za_S) (p : Nat) : za_S := match S.2 0 p 0 with
  | none => S
  | some r => zs_out S r p (zs_pl S r p)
def zs_mi (S : za_S) (p : Nat) (q : Option Nat) : za_S := match q with
  | none => S
  | some t => zs_in S t p
/-- p goes where q says -/
def zs_mv (S : za_S) (p : Nat) (q : Option Nat) : za_S := zs_mi (za_P (zs_mo S p) 0 p 0 q) p q
/-- pins end of the first n people -/
def zs_st (S : za_S) (n : Nat) : za_S := (S.1, fun c i j => if c = 1 ∧ j = 0 ∧ i < n ∧ i < S.1 0 0 0 ∧ zs_tg S (some i) (S.2 1 i 0) = false then none else S.2 c i j)
theorem zs_st_0 (S : za_S) : zs_st S 0 = S := by
  refine Prod.ext rfl ?_
  funext c i j
  exact if_neg (fun h => absurd h.2.2.1 (Nat.not_lt_zero _))
theorem zs_st_no (S : za_S) (n : Nat) (h : ¬ (n < S.1 0 0 0 ∧ zs_tg S (some n) (S.2 1 n 0) = false)) : zs_st S (n + 1) = zs_st S n := by
  refine Prod.ext rfl ?_
  funext c i j
  show (if _ then _ else _) = if _ then _ else _
  by_cases h1 : c = 1 ∧ j = 0 ∧ i < n ∧ i < S.1 0 0 0 ∧ zs_tg S (some i) (S.2 1 i 0) = false
  · rw [if_pos h1, if_pos ⟨h1.1, h1.2.1, by have := h1.2.2.1; omega, h1.2.2.2⟩]
  · rw [if_neg h1, if_neg (fun h2 => by
      by_cases e : i = n
      · exact h (by rw [← e]; exact h2.2.2.2)
      · exact h1 ⟨h2.1, h2.2.1, by have := h2.2.2.1; omega, h2.2.2.2⟩)]
theorem zs_st_yes (S : za_S) (n : Nat) (h : n < S.1 0 0 0) (h2 : zs_tg S (some n) (S.2 1 n 0) = false) : za_P (zs_st S n) 1 n 0 none = zs_st S (n + 1) := by
  refine Prod.ext rfl ?_
  funext c i j
  show (if _ then _ else if _ then _ else _) = if _ then _ else _
  by_cases h1 : c = 1 ∧ i = n ∧ j = 0
  · obtain ⟨rfl, rfl, rfl⟩ := h1
    rw [if_pos ⟨rfl, rfl, rfl⟩, if_pos ⟨rfl, rfl, Nat.lt_succ_self _, h, h2⟩]
  · rw [if_neg h1]
    by_cases h3 : c = 1 ∧ j = 0 ∧ i < n ∧ i < S.1 0 0 0 ∧ zs_tg S (some i) (S.2 1 i 0) = false
    · rw [if_pos h3, if_pos ⟨h3.1, h3.2.1, by have := h3.2.2.1; omega, h3.2.2.2⟩]
    · rw [if_neg h3, if_neg (fun h4 => by
        by_cases e : i = n
        · exact h1 ⟨h4.1, e, h4.2.1⟩
        · exact h3 ⟨h4.1, h4.2.1, by have := h4.2.2.1; omega, h4.2.2.2⟩)]
/-- what person v uses -/
def zs_us (S : za_S) (v : Nat) : Nat := zs_sum (fun p => zs_need ((zs_ch S v).1 p)) 10
def zs_ua (S : za_S) (n : Nat) : Nat := zs_sum (fun v => if v < S.1 0 0 0 then zs_us S v else 0) n
theorem zs_us_le (S : za_S) (v : Nat) : zs_us S v ≤ 16000 := zs_sum_le _ 1600 (fun _ => zs_need_le _) 10
theorem zs_ua_le (S : za_S) (n : Nat) : zs_ua S n ≤ n * 16000 := zs_sum_le _ 16000 (fun v => by have := zs_us_le S v; show (if _ then _ else _) ≤ _; split <;> omega) n
/-- what a new choice of all views leaves -/
def zs_fv (X X' : za_S) : Prop := X'.1 4 = X.1 4 ∧ X'.1 5 = X.1 5 ∧ X'.2 1 = X.2 1 ∧ X'.2 2 = X.2 2 ∧ X'.2 3 = X.2 3 ∧ X'.2 6 = X.2 6
theorem zs_fv.rf (X : za_S) : zs_fv X X := ⟨rfl, rfl, rfl, rfl, rfl, rfl⟩
theorem zs_fv.tr {X Y Z : za_S} (h : zs_fv X Y) (g : zs_fv Y Z) : zs_fv X Z :=
  ⟨g.1.trans h.1, g.2.1.trans h.2.1, g.2.2.1.trans h.2.2.1, g.2.2.2.1.trans h.2.2.2.1, g.2.2.2.2.1.trans h.2.2.2.2.1, g.2.2.2.2.2.trans h.2.2.2.2.2⟩
theorem zs_fr.fv {X Y : za_S} (h : zs_fr X Y) : zs_fv X Y := ⟨h.2.2.1, h.2.2.2.1, h.2.2.2.2.1, h.2.2.2.2.2.1, h.2.2.2.2.2.2.1, h.2.2.2.2.2.2.2⟩
theorem zs_fv_row (X : za_S) (i n : Nat) (f : Nat → Nat) : zs_fv X (zs_row X 0 i n f) := by
  refine ⟨?_, ?_, rfl, rfl, rfl, rfl⟩ <;> (funext a b) <;> simp [zs_row]
theorem zs_fv_N3 (X : za_S) (n : Nat) : zs_fv X (za_N X 3 0 0 n) := by
  refine ⟨?_, ?_, rfl, rfl, rfl, rfl⟩ <;> (funext a b) <;> simp [za_N]
theorem zs_J.fv {S X X' : za_S} (h : zs_J S X) (f : zs_fv X X') : zs_J S X' := by
  obtain ⟨f3, f4, f5, f6, f7, f8⟩ := f
  obtain ⟨h1, h2, h3, h4, h5, h6, h7, h8, h9⟩ := h
  exact ⟨h1, h2, h3, by rw [f4]; exact h4, by rw [f4]; exact h5, by rw [f4]; exact h6, by rw [f5]; exact h7, by rw [f6]; exact h8, by rw [f7]; exact h9⟩
/-- the views are right for the first n people -/
def zs_vw (S X : za_S) (n : Nat) : Prop := ∀ v, v < n → v < S.1 0 0 0 → ∀ p, p < 10 → X.1 0 v p = (zs_ch S v).1 p
theorem zs_vw_s {S X1 X2 : za_S} {i : Nat} (h : zs_vw S X1 i) (f : zs_fr X1 X2) (hi : i < 10) (h10 : S.1 0 0 0 ≤ 10) (hc : ∀ p, p < 10 → X2.1 0 10 p = (zs_ch S i).1 p) : zs_vw S (zs_row X2 0 i 10 (X2.1 0 10)) (i + 1) := by
  intro v hv hn p hp
  show (if _ then _ else _) = _
  by_cases e : v = i
  · subst e
    rw [if_pos ⟨rfl, rfl, hp⟩]
    exact hc p hp
  · rw [if_neg (fun h => e h.2.1), f.1 v (by omega)]
    exact h v (by omega) hn p hp
def zs_Va (S : za_S) : Prop := ∀ v, v < S.1 0 0 0 → zs_V S (S.1 0 0 0) (S.1 0 1 0) v
