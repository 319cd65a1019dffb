
theorem zs_tick_mo {S : za_S} (hI : zs_I S) (hL : zs_L S) (ht : S.1 0 3 0 < 2000) : zs_ce S ≤ zs_ce (zs_tick S) ∧ zs_sl S ≤ zs_sl (zs_tick S) ∧ S.1 7 8 0 ≤ (zs_tick S).1 7 8 0 ∧ (zs_tick S).1 0 3 0 = S.1 0 3 0 + 1 ∧ (zs_tick S).1 0 0 0 = S.1 0 0 0 ∧ (zs_tick S).1 0 1 0 = S.1 0 1 0 ∧ (zs_tick S).1 0 2 0 = S.1 0 2 0 := by
  have tF := zs_tick_f hI hL ht
  have k1 := tF.k1
  have k2 := tF.k2
  have k3 := tF.k3
  have k4 := tF.k4
  have k5 := tF.k5
  have k6 := tF.k6
  obtain ⟨a1, a2⟩ : zs_ce (zs_tB S) ≤ zs_ce (zs_tC S) ∧ zs_sl (zs_tB S) ≤ zs_sl (zs_tC S) := zs_nt_mo tF.iB tF.nB (i := 0) (j := 8) (Nat.zero_le _) (Nat.le_refl _)
  obtain ⟨-, e1, -, e7⟩ := zs_nt_f tF.iB tF.nB 8 (Nat.le_refl 8)
  have c0 : (zs_tC S).1 0 = (zs_t0 S).1 0 := (e1 0 (by decide)).trans (tF.b0.trans tF.cA)
  obtain ⟨-, -, m1, -⟩ := zs_tt_f tF.i0 tF.hT 6 (Nat.le_refl 6)
  refine ⟨by omega, by omega, ?_, ?_, ?_, ?_, ?_⟩
  · rw [zs_tick_1 S 7 8 0 (by omega)]
    have h : (zs_tC S).1 7 8 0 = (zs_tA S).1 7 8 0 := (e7 8 (Nat.le_refl 8)).trans (by rw [tF.b7])
    rw [h]
    exact m1
  · rw [zs_tick_1 S 0 3 0 (by omega), c0]
    exact za_Ns _ _ _ _ _
  · rw [zs_tick_1 S 0 0 0 (by omega), c0]
    rfl
  · rw [zs_tick_1 S 0 1 0 (by omega), c0]
    rfl
  · rw [zs_tick_1 S 0 2 0 (by omega), c0]
    rfl
def zs_pass (S : za_S) : Nat → za_S
  | 0 => S
  | i + 1 => zs_tick (zs_pass S i)
theorem zs_pass_f {S : za_S} (hI : zs_I S) (hL : zs_L S) : ∀ i, S.1 0 3 0 + i ≤ 2000 → zs_I (zs_pass S i) ∧ zs_L (zs_pass S i) ∧ (zs_pass S i).1 0 3 0 = S.1 0 3 0 + i ∧ S.1 7 8 0 ≤ (zs_pass S i).1 7 8 0 ∧ zs_ce S ≤ zs_ce (zs_pass S i) ∧ zs_sl S ≤ zs_sl (zs_pass S i)
  | 0, _ => ⟨hI, hL, rfl, Nat.le_refl _, Nat.le_refl _, Nat.le_refl _⟩
  | i + 1, h => by
    obtain ⟨h1, h2, h3, h4, h5, h6⟩ := zs_pass_f hI hL i (by omega)
    have tF := zs_tick_f h1 h2 (by omega)
    obtain ⟨a1, a2, a3, a4, -⟩ := zs_tick_mo h1 h2 (by omega)
    exact ⟨tF.iT, tF.lT, by show (zs_tick _).1 0 3 0 = _; omega, by show _ ≤ (zs_tick _).1 7 8 0; omega, by show _ ≤ zs_ce (zs_tick _); omega, by show _ ≤ zs_sl (zs_tick _); omega⟩
theorem zs_pass_mo {S : za_S} (hI : zs_I S) (hL : zs_L S) {i : Nat} : ∀ {j}, i ≤ j → S.1 0 3 0 + j ≤ 2000 → zs_ce (zs_pass S i) ≤ zs_ce (zs_pass S j) ∧ zs_sl (zs_pass S i) ≤ zs_sl (zs_pass S j)
  | 0, h, _ => by
    have e : i = 0 := by omega
    subst e
    exact ⟨Nat.le_refl _, Nat.le_refl _⟩
  | j + 1, h, hj => by
    by_cases e : i = j + 1
    · subst e
      exact ⟨Nat.le_refl _, Nat.le_refl _⟩
    · obtain ⟨a1, a2⟩ := zs_pass_mo hI hL (i := i) (j := j) (by omega) (by omega)
      obtain ⟨h1, h2, h3, -⟩ := zs_pass_f hI hL j (by omega)
      obtain ⟨b1, b2, -⟩ := zs_tick_mo h1 h2 (by omega)
      exact ⟨Nat.le_trans a1 b1, Nat.le_trans a2 b2⟩
def zo_pass (S : za_S) (n : Nat) : Nat := if n < 1 ∨ 60 < n then 1 else if 2000 < S.1 0 3 0 + n then 2 else 0
