
/-! ### join -/
def zs_j1 (S : za_S) (a b : Nat) : za_S := match zs_at S a 0 with
  | none => S
  | some p => zs_mv S p (some b)
def zs_jn (S : za_S) (a b : Nat) : Nat → za_S
  | 0 => S
  | i + 1 => zs_j1 (zs_jn S a b i) a b
theorem zs_jn_0 {S : za_S} {a b i : Nat} (h : zs_at (zs_jn S a b i) a 0 = none) : zs_jn S a b (i + 1) = zs_jn S a b i := by
  show zs_j1 _ a b = _
  unfold zs_j1
  rw [h]
theorem zs_jn_s {S : za_S} {a b i p : Nat} (h : zs_at (zs_jn S a b i) a 0 = some p) : zs_jn S a b (i + 1) = zs_mv (zs_jn S a b i) p (some b) := by
  show zs_j1 _ a b = _
  unfold zs_j1
  rw [h]
theorem zs_at_in {S : za_S} (h : zs_Q S) {r i p : Nat} (e : zs_at S r i = some p) : p < S.1 0 0 0 ∧ S.2 0 p 0 = some r := by
  unfold zs_at at e
  split at e
  next q =>
    obtain ⟨x, g1, g2, g3⟩ := h.oc q.1
    cases e.symm.trans g2
    exact ⟨g1, g3⟩
  next => cases e
theorem zs_jn_f {S : za_S} (h : zs_Q S) {a b : Nat} (hb : b < S.1 0 1 0) (hn : a ≠ b) : ∀ i, zs_Q (zs_jn S a b i) ∧ (zs_jn S a b i).1 0 = S.1 0
  | 0 => ⟨h, rfl⟩
  | i + 1 => by
    obtain ⟨h1, h2⟩ := zs_jn_f h hb hn i
    cases e : zs_at (zs_jn S a b i) a 0 with
    | none =>
      rw [zs_jn_0 e]
      exact ⟨h1, h2⟩
    | some p =>
      rw [zs_jn_s e]
      obtain ⟨g1, g2⟩ := zs_at_in h1 e
      exact ⟨zs_W_mv h1 g1 (by rintro _ ⟨⟩; rw [h2]; exact hb) (by rw [g2]; exact fun q => hn (Option.some.inj q)), (zs_mv_c _ _ _).trans h2⟩
def zs_fw (S : za_S) (a b : Nat) : Nat → za_S
  | 0 => S
  | k + 1 => if k < S.1 0 2 0 ∧ S.1 9 k 0 = a then za_N (zs_fw S a b k) 9 k 0 b else zs_fw S a b k
theorem zs_fw_y {S : za_S} {a b k : Nat} (h : k < S.1 0 2 0 ∧ S.1 9 k 0 = a) : zs_fw S a b (k + 1) = za_N (zs_fw S a b k) 9 k 0 b := if_pos h
theorem zs_fw_n {S : za_S} {a b k : Nat} (h : ¬ (k < S.1 0 2 0 ∧ S.1 9 k 0 = a)) : zs_fw S a b (k + 1) = zs_fw S a b k := if_neg h
theorem zs_Q_fo {S : za_S} (h : zs_Q S) {k b : Nat} (hb : b < S.1 0 1 0) : zs_Q (za_N S 9 k 0 b) := by
  obtain ⟨g1, g2, g3, g4, g5, g6, g7, g8, g9, g10, g11, g12, g13, g14, g15, g16, g17⟩ := h
  refine ⟨zs_N_B g1 (by omega), g2, g3, g4, g5, g6, g7, g8, g9, g10, fun j hj => ?_, g12, g13, g14, g15, g16, g17⟩
  show (if _ then _ else _) < S.1 0 1 0
  split
  · exact hb
  · exact g11 j hj
theorem zs_fw_f {S : za_S} (h : zs_Q S) (a : Nat) {b : Nat} (hb : b < S.1 0 1 0) : ∀ k, zs_Q (zs_fw S a b k) ∧ (∀ c, c ≠ 9 → (zs_fw S a b k).1 c = S.1 c) ∧ (zs_fw S a b k).2 = S.2 ∧ ∀ j, k ≤ j → (zs_fw S a b k).1 9 j 0 = S.1 9 j 0
  | 0 => ⟨h, fun _ _ => rfl, rfl, fun _ _ => rfl⟩
  | k + 1 => by
    obtain ⟨h1, h2, h3, h4⟩ := zs_fw_f h a hb k
    by_cases q : k < S.1 0 2 0 ∧ S.1 9 k 0 = a
    · rw [zs_fw_y q]
      refine ⟨zs_Q_fo h1 (by rw [h2 0 (by decide)]; exact hb), fun c hc => ?_, h3, fun j hj => ?_⟩
      · rw [← h2 c hc]
        funext x d
        rw [za_N1, if_neg (fun z => hc z.1)]
      · rw [za_N1, if_neg (by omega)]
        exact h4 j (by omega)
    · rw [zs_fw_n q]
      exact ⟨h1, h2, h3, fun j hj => h4 j (by omega)⟩
def zo_jo (S : za_S) (a b : Nat) : Nat := if ¬ a < S.1 0 1 0 then 1 else if ¬ b < S.1 0 1 0 then 1 else if a = b then 2 else 0
