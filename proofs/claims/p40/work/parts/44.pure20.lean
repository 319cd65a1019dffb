
/-! ### rooms are opened, split, emptied -/
theorem zs_mvn_5 {S : za_S} {p t : Nat} (hn : S.2 0 p 0 ≠ some t) : (zs_mv S p none).1 5 t 0 = S.1 5 t 0 := zs_mo_5 hn
theorem zs_mv_5 {S : za_S} {p a b : Nat} (h : S.2 0 p 0 = some a) (hn : a ≠ b) : (zs_mv S p (some b)).1 5 a 0 = S.1 5 a 0 - 1 := by
  have e : zs_mo S p = zs_out S a p (zs_pl S a p) := by simp only [zs_mo, h]
  unfold zs_mv zs_mi
  rw [e]
  show (if 5 = 5 ∧ a = b ∧ 0 = 0 then _ else (zs_out S a p (zs_pl S a p)).1 5 a 0) = _
  rw [if_neg (fun z => hn z.2.1)]
  simp [zs_out, za_N, za_P]
theorem zs_jn_e {S : za_S} {a b j : Nat} (h : zs_at (zs_jn S a b j) a 0 = none) : ∀ d, zs_jn S a b (j + d) = zs_jn S a b j
  | 0 => rfl
  | d + 1 => by
    have e := zs_jn_e h d
    exact (zs_jn_0 (S := S) (a := a) (b := b) (i := j + d) (by rw [e]; exact h)).trans e
theorem zs_at_s {S : za_S} (h : zs_Q S) {a i : Nat} (hi : i < S.1 5 a 0) : ∃ p, zs_at S a i = some p ∧ S.2 2 a i = some p ∧ p < S.1 0 0 0 ∧ S.2 0 p 0 = some a := by
  obtain ⟨p, h1, h2, h3⟩ := h.oc hi
  have hz := h.sz a
  exact ⟨p, (if_pos ⟨hi, by omega⟩ : zs_at S a i = S.2 2 a i).trans h2, h2, h1, h3⟩
theorem zs_at_n {S : za_S} {a i : Nat} (hi : ¬ i < S.1 5 a 0) : zs_at S a i = none := if_neg (fun z => hi z.1)
def zs_sq (S : za_S) (a b i : Nat) : za_S := match zs_at S a i with
  | none => S
  | some p => zs_mv S p (some b)
/-- one after another goes out of room a into room b -/
def zs_spl (S : za_S) (a b : Nat) : Nat → za_S
  | 0 => S
  | i + 1 => zs_sq (zs_spl S a b i) a b (i + 1)
theorem zs_spl_0 {S : za_S} {a b i : Nat} (h : zs_at (zs_spl S a b i) a (i + 1) = none) : zs_spl S a b (i + 1) = zs_spl S a b i := by
  show zs_sq _ a b _ = _
  unfold zs_sq
  rw [h]
theorem zs_spl_s {S : za_S} {a b i p : Nat} (h : zs_at (zs_spl S a b i) a (i + 1) = some p) : zs_spl S a b (i + 1) = zs_mv (zs_spl S a b i) p (some b) := by
  show zs_sq _ a b _ = _
  unfold zs_sq
  rw [h]
theorem zs_spl_f {S : za_S} (h : zs_Q S) {a b : Nat} (hb : b < S.1 0 1 0) (hn : a ≠ b) : ∀ i, zs_Q (zs_spl S a b i) ∧ (zs_spl S a b i).1 0 = S.1 0 ∧ (i ≤ S.1 5 a 0 / 2 → (zs_spl S a b i).1 5 a 0 = S.1 5 a 0 - i) ∧ (S.1 5 a 0 / 2 ≤ i → (zs_spl S a b i).1 5 a 0 = S.1 5 a 0 - S.1 5 a 0 / 2)
  | 0 => ⟨h, rfl, fun _ => rfl, fun q => by
      show S.1 5 a 0 = _
      omega⟩
  | i + 1 => by
    obtain ⟨h1, h2, h3, h4⟩ := zs_spl_f h hb hn i
    by_cases q : i + 1 < (zs_spl S a b i).1 5 a 0
    · obtain ⟨p, e1, e2, e3, e4⟩ := zs_at_s h1 q
      have hlt : i < S.1 5 a 0 / 2 := by
        rcases Nat.lt_or_ge i (S.1 5 a 0 / 2) with z | z
        · exact z
        · have := h4 z
          omega
      have h5 := h3 (by omega)
      rw [zs_spl_s e1]
      have e5 := zs_mv_5 e4 hn
      refine ⟨zs_W_mv h1 e3 (by rintro _ ⟨⟩; rw [h2]; exact hb) (by rw [e4]; exact fun z => hn (Option.some.inj z)), (zs_mv_c _ _ _).trans h2, fun _ => by rw [e5, h5]; omega, fun z => by rw [e5, h5]; omega⟩
    · rw [zs_spl_0 (zs_at_n q)]
      have hge : S.1 5 a 0 / 2 ≤ i := by
        rcases Nat.lt_or_ge i (S.1 5 a 0 / 2) with z | z
        · have := h3 (by omega)
          omega
        · exact z
      exact ⟨h1, h2, fun z => by have := h4 hge; omega, fun _ => h4 hge⟩
theorem zs_spl_e {S : za_S} (h : zs_Q S) {a b : Nat} (hb : b < S.1 0 1 0) (hn : a ≠ b) : ∀ d, zs_spl S a b (S.1 5 a 0 / 2 + d) = zs_spl S a b (S.1 5 a 0 / 2)
  | 0 => rfl
  | d + 1 => by
    refine Eq.trans ?_ (zs_spl_e h hb hn d)
    have h4 := (zs_spl_f h hb hn (S.1 5 a 0 / 2 + d)).2.2.2 (by omega)
    exact zs_spl_0 (i := S.1 5 a 0 / 2 + d) (zs_at_n (by omega))
theorem zs_spl_9 {S : za_S} (h : zs_Q S) {a b : Nat} (hb : b < S.1 0 1 0) (hn : a ≠ b) : zs_spl S a b (S.1 5 a 0 / 2) = zs_spl S a b 9 := by
  have hz := h.sz a
  rw [← zs_spl_e h hb hn (9 - S.1 5 a 0 / 2)]
  exact congrArg (zs_spl S a b) (by omega)
theorem zs_I_nr {S : za_S} (h : zs_I S) (h6 : S.1 0 1 0 < 6) : zs_I (zs_nr S) := by
  obtain ⟨⟨g1, g2, g3, g4, g5, g6, g7, g8, g9, g10, g11, g12, g13, g14, g15, g16, g17⟩, g⟩ := h
  have c1 : (zs_nr S).1 0 1 0 = S.1 0 1 0 + 1 := za_Ns _ _ _ _ _
  have c0 : (zs_nr S).1 0 0 0 = S.1 0 0 0 := rfl
  have s3 : ∀ r, (zs_nr S).2 3 r 0 = if r = S.1 0 1 0 then none else S.2 3 r 0 := fun r => by
    unfold zs_nr
    rw [za_N2, za_P2, if_neg (by omega), za_P2]
    by_cases q : r = S.1 0 1 0
    · rw [if_pos q, if_pos ⟨rfl, q, rfl⟩]
    · rw [if_neg q, if_neg (fun z => q z.2.1)]
  have s4 : ∀ r, (zs_nr S).2 4 r 0 = if r = S.1 0 1 0 then none else S.2 4 r 0 := fun r => by
    unfold zs_nr
    rw [za_N2, za_P2]
    by_cases q : r = S.1 0 1 0
    · rw [if_pos q, if_pos ⟨rfl, q, rfl⟩]
    · rw [if_neg q, if_neg (fun z => q z.2.1), za_P2, if_neg (by omega)]
  refine ⟨⟨zs_N_B (zs_P_B (zs_P_B g1 _ _ _ _) _ _ _ _) (by omega), ⟨g2.1, by rw [c1]; omega, g2.2.2⟩, g3, fun a r ha e => ⟨by rw [c1]; have := (g4 a r ha e).1; omega, (g4 a r ha e).2⟩, g5, g6, g7, fun r x hr e => ?_, fun r x hr e => ?_, g10, fun k hk => by rw [c1]; exact Nat.lt_succ_of_lt (g11 k hk), g12, g13, g14, g15, fun r hr => g16 r (by rw [c1] at hr; omega), g17⟩, g⟩
  · rw [s3] at e
    rw [c1] at hr
    split at e
    · cases e
    · exact g8 r x (by omega) e
  · rw [s4] at e
    rw [c1] at hr
    split at e
    · cases e
    · exact g9 r x (by omega) e
/-- a person is added -/
def zs_np (S : za_S) (v : Nat) : za_S := za_N (za_P (za_P (za_N S 1 (S.1 0 0 0) 0 v) 0 (S.1 0 0 0) 0 none) 1 (S.1 0 0 0) 0 none) 0 0 0 (S.1 0 0 0 + 1)
def zo_ap (S : za_S) (v : Nat) : Nat := if ¬ v ≤ 9999 then 1 else if ¬ S.1 0 0 0 < 10 then 2 else 0
def zo_ar (S : za_S) : Nat := if ¬ S.1 0 1 0 < 6 then 1 else 0
def zo_sp (S : za_S) (r : Nat) : Nat := if ¬ r < S.1 0 1 0 then 1 else if S.1 5 r 0 < 2 ∨ ¬ S.1 0 1 0 < 6 then 2 else 0
def zo_rec (S : za_S) (r : Nat) : Nat := if ¬ r < S.1 0 1 0 then 1 else if ¬ S.1 0 2 0 < 8 then 2 else 0
/-- a recorder is started -/
def zs_nk (S : za_S) (r : Nat) : za_S := za_N (za_N S 9 (S.1 0 2 0) 0 r) 0 2 0 (S.1 0 2 0 + 1)

theorem zs_tick_6 {S : za_S} (hI : zs_I S) (hL : zs_L S) (ht : S.1 0 3 0 < 2000) (h : ∀ a, S.1 6 a 0 ≤ 2) (a : Nat) : (zs_tick S).1 6 a 0 ≤ 2 := by
  have tF := zs_tick_f hI hL ht
  obtain ⟨-, c1, -, -⟩ := zs_nt_f tF.iB tF.nB 8 (Nat.le_refl 8)
  obtain ⟨-, -, b1, -⟩ := zs_ta_f tF.iA tF.bA 6
  rw [zs_tick_1 S 6 a 0 (by omega)]
  have e1 : (zs_tC S).1 6 = (zs_tB S).1 6 := c1 6 (by decide)
  have e2 : (zs_tB S).1 6 = (zs_tA S).1 6 := b1 6 (by decide)
  rw [e1, e2]
  exact zs_tt_6b (S := zs_t0 S) h 6 a
theorem zs_pass_6 {S : za_S} (hI : zs_I S) (hL : zs_L S) (h : ∀ a, S.1 6 a 0 ≤ 2) : ∀ i, S.1 0 3 0 + i ≤ 2000 → ∀ a, (zs_pass S i).1 6 a 0 ≤ 2
  | 0, _, a => h a
  | i + 1, hi, a => by
    obtain ⟨h1, h2, h3, -⟩ := zs_pass_f hI hL i (by omega)
    exact zs_tick_6 h1 h2 (by omega) (zs_pass_6 hI hL h i (by omega)) a
theorem zs_need_0 {j : Nat} (h3 : j ≤ 3) (h : zs_need j = 0) : j = 0 := by
  have : j = 0 ∨ j = 1 ∨ j = 2 ∨ j = 3 := by omega
  rcases this with rfl | rfl | rfl | rfl
  · rfl
  · exact absurd h (by decide)
  · exact absurd h (by decide)
  · exact absurd h (by decide)
theorem zs_sum_0 {f : Nat → Nat} : ∀ {n}, zs_sum f n = 0 → ∀ j, j < n → f j = 0
  | 0, _, j, hj => absurd hj (Nat.not_lt_zero _)
  | n + 1, h, j, hj => by
    have h' : zs_sum f n + f n = 0 := h
    by_cases q : j = n
    · subst q
      omega
    · exact zs_sum_0 (n := n) (by omega) j (by omega)
theorem zs_us_0 {S : za_S} {v : Nat} (h : zs_us S v = 0) : ∀ p, p < 10 → (zs_ch S v).1 p = 0 := fun p hp => zs_need_0 ((zm_w5_le S v).1 p) (zs_sum_0 h p hp)
theorem zs_us_1 {S : za_S} {v p : Nat} (hp : p < 10) (h : (zs_ch S v).1 p ≠ 0) : 0 < zs_us S v := by
  rcases Nat.eq_zero_or_pos (zs_us S v) with z | z
  · exact absurd (zs_us_0 z p hp) h
  · exact z
theorem zs_vc_a {S : za_S} {q : Nat} (d : Nat) : zs_vc S q (S.1 0 0 0 + d) = zs_vc S q (S.1 0 0 0) := zs_sum_a (fun j hj => if_neg (fun z => absurd z.1 (Nat.not_lt.mpr hj))) d
theorem zs_vc_10 {S : za_S} {q : Nat} (h : S.1 0 0 0 ≤ 10) : zs_vc S q (S.1 0 0 0) = zs_vc S q 10 := by
  rw [← zs_vc_a (10 - S.1 0 0 0)]
  exact congrArg (zs_vc S q) (by omega)
theorem zs_fw_a {S : za_S} {a b : Nat} : ∀ d, zs_fw S a b (S.1 0 2 0 + d) = zs_fw S a b (S.1 0 2 0)
  | 0 => rfl
  | d + 1 => (zs_fw_n (fun z => absurd z.1 (Nat.not_lt.mpr (Nat.le_add_right _ _)))).trans (zs_fw_a d)
theorem zs_fw_8 {S : za_S} {a b n : Nat} (hn : n = S.1 0 2 0) (h : S.1 0 2 0 ≤ 8) : zs_fw S a b n = zs_fw S a b 8 := by
  subst hn
  rw [← zs_fw_a (8 - S.1 0 2 0)]
  exact congrArg (zs_fw S a b) (by omega)
