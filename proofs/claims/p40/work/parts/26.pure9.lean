
theorem zl_le (k n : Nat) : zl_len k n ≤ 12000 := by
  unfold zl_len
  (repeat' split) <;> omega
theorem zl_mono {k : Nat} : ∀ {m n : Nat}, n ≤ m → m ≤ zl_lim k → zl_ce k n ≤ zl_ce k m ∧ zl_sl k n ≤ zl_sl k m
  | 0, n, h, _ => by
    have e : n = 0 := by omega
    subst e
    exact ⟨Nat.le_refl _, Nat.le_refl _⟩
  | m + 1, n, h, hm => by
    by_cases e : n = m + 1
    · subst e
      exact ⟨Nat.le_refl _, Nat.le_refl _⟩
    · obtain ⟨a1, a2⟩ := zl_mono (k := k) (m := m) (n := n) (by omega) (by omega)
      obtain ⟨-, -, -, -, -, -, s7, s8⟩ := zl_step (k := k) (n := m) (by omega)
      by_cases q : m = zl_len k m
      · obtain ⟨-, -, -, r4, r5⟩ := s7 q
        omega
      · obtain ⟨-, r4, r5⟩ := s8 q
        omega
theorem zl_put {k n : Nat} (h : n < zl_lim k) : zl_ce k n ≤ zl_ce k (n + 1) ∧ zl_sl k n ≤ zl_sl k (n + 1) := zl_mono (Nat.le_succ n) (by omega)
theorem zl_X_tr {X X1 X2 : za_S} {k L L2 : Nat} (h : zl_X X X1 k L) (g : zl_X X1 X2 k L2) : zl_X X X2 k L2 :=
  ⟨g.1, fun c i j q => (g.2.1 c i j q).trans (h.2.1 c i j q), fun c i j q => (g.2.2 c i j q).trans (h.2.2 c i j q)⟩
theorem zl_X_J {S X X2 : za_S} {k L : Nat} (h : zl_X X X2 k L) (hJ : zs_J S X) : zs_J S X2 := by
  obtain ⟨h1, h2, h3, h4, h5, h6, h7, h8, h9⟩ := hJ
  refine ⟨h1, h2, h3, ?_, ?_, ?_, fun j => ?_, fun j => ?_, fun j => ?_⟩
  · rw [h.2.1 5 0 0 (by omega)]; exact h4
  · rw [h.2.1 5 1 0 (by omega)]; exact h5
  · rw [h.2.1 5 2 0 (by omega)]; exact h6
  · rw [h.2.2 1 j 0 (by omega)]; exact h7 j
  · rw [h.2.2 2 j 0 (by omega)]; exact h8 j
  · rw [h.2.2 3 j 0 (by omega)]; exact h9 j
theorem zl_X_B {X X2 : za_S} {k L : Nat} (h : zl_X X X2 k L) (hB : zs_B X) (hL : L < 2 ^ 30) : zs_B X2 := by
  intro c i j
  by_cases q : c = 4 ∧ i = k ∧ j = 0
  · obtain ⟨rfl, rfl, rfl⟩ := q
    rw [h.1]
    exact hL
  · rw [h.2.1 c i j q]
    exact hB c i j
theorem zs_loud_in {S : za_S} {r p : Nat} : ∀ {i}, zs_loud S r i = some p → ∃ j, j < i ∧ S.2 2 r j = some p
  | 0, h => by cases h
  | i + 1, h => by
    unfold zs_loud at h
    split at h
    next => obtain ⟨j, h1, h2⟩ := zs_loud_in h; exact ⟨j, by omega, h2⟩
    next q e =>
      split at h
      next => cases h; exact ⟨i, by omega, e⟩
      next q2 e2 =>
        split at h
        next => cases h; exact ⟨i, by omega, e⟩
        next => cases h; obtain ⟨j, h1, h2⟩ := zs_loud_in e2; exact ⟨j, by omega, h2⟩
theorem zs_cand_in {S : za_S} {r p : Nat} (h : zs_cand S r = some p) : ∃ j, j < S.1 5 r 0 ∧ S.2 2 r j = some p := by
  unfold zs_cand at h
  split at h
  next => cases h
  next q e =>
    split at h
    next => cases h; exact zs_loud_in e
    next => cases h
theorem zs_cand_I {S : za_S} (hI : zs_I S) {r p : Nat} (h : zs_cand S r = some p) : p < S.1 0 0 0 ∧ S.2 0 p 0 = some r := by
  obtain ⟨j, h1, h2⟩ := zs_cand_in h
  obtain ⟨a, g1, g2, g3⟩ := hI.oc h1
  cases h2.symm.trans g2
  exact ⟨g1, g3⟩
/-- a room's speaker, challenger, number of ticks of challenge are other ones -/
abbrev zs_sp (S : za_S) (r n : Nat) (o4 o3 : Option Nat) : za_S := za_P (za_P (za_N S 6 r 0 n) 4 r 0 o4) 3 r 0 o3
theorem zs_pt_f (S : za_S) (r : Nat) : ∃ n o4 o3, n ≤ 2 ∧ (zs_pt S r).1 = zs_sp S r n o4 o3 ∧ (o4 = none ∨ o4 = zs_cand S r) ∧ (o3 = S.2 3 r 0 ∨ o3 = zs_cand S r) ∧ ((zs_pt S r).2 = true → o3 = zs_cand S r ∧ zs_cand S r ≠ none) := by
  unfold zs_pt
  split
  next h =>
    refine ⟨0, none, zs_cand S r, by omega, za_Sx (fun _ _ _ => rfl) (fun _ _ _ => rfl), Or.inl rfl, Or.inr rfl, fun q => ⟨rfl, fun e => ?_⟩⟩
    rw [e] at q
    cases q
  next h =>
    split
    next g =>
      refine ⟨0, none, S.2 3 r 0, by omega, za_Sx (fun _ _ _ => rfl) (fun c i j => ?_), Or.inl rfl, Or.inl rfl, fun q => by cases q⟩
      show _ = if _ then _ else _
      split
      next q => obtain ⟨rfl, rfl, rfl⟩ := q; simp [zs_end, za_P, za_N]
      next => rfl
    next g =>
      split
      next f =>
        refine ⟨zs_chn S r, zs_cand S r, S.2 3 r 0, by omega, za_Sx (fun _ _ _ => rfl) (fun c i j => ?_), Or.inr rfl, Or.inl rfl, fun q => by cases q⟩
        show _ = if _ then _ else _
        split
        next q => obtain ⟨rfl, rfl, rfl⟩ := q; simp [zs_end, za_P, za_N]
        next => rfl
      next f =>
        refine ⟨0, none, zs_cand S r, by omega, za_Sx (fun c i j => ?_) (fun c i j => ?_), Or.inl rfl, Or.inr rfl, fun _ => ⟨rfl, fun e => ?_⟩⟩
        · simp only [zs_end, zs_sp, za_P1, za_N1]
          split <;> rfl
        · simp only [zs_end, zs_sp, za_P2, za_N2]
          by_cases h4 : c = 4 ∧ i = r ∧ j = 0
          · rw [if_pos h4, if_neg (by omega), if_pos h4]
          · rw [if_neg h4, if_neg h4, if_neg h4]
        · rw [e] at g
          exact g rfl
theorem zs_I_sp {S : za_S} (hI : zs_I S) {r : Nat} (hr : r < S.1 0 1 0) {n : Nat} (hn : n ≤ 2) {o4 o3 : Option Nat} (h4 : ∀ x, o4 = some x → x < S.1 0 0 0) (h3 : ∀ x, o3 = some x → x < S.1 0 0 0 ∧ S.2 0 x 0 = some r) : zs_I (zs_sp S r n o4 o3) := by
  obtain ⟨⟨g1, g2, g3, g4, g5, g6, g7, g8, g9, g10, g11, g12, g13, g14, g15, g16, g17⟩, g⟩ := hI
  refine ⟨⟨zs_N_B g1 (by omega), g2, g3, g4, g5, g6, g7, fun a x ha e => ?_, fun a x ha e => ?_, g10, g11, g12, g13, g14, g15, fun a ha => ⟨(g16 a ha).1, ?_, (g16 a ha).2.2⟩, g17⟩, g⟩
  · by_cases q : a = r
    · subst q
      have e1 : (zs_sp S a n o4 o3).2 3 a 0 = o3 := if_pos ⟨rfl, rfl, rfl⟩
      exact h3 x (e1.symm.trans e)
    · have e1 : (zs_sp S r n o4 o3).2 3 a 0 = S.2 3 a 0 := by simp [zs_sp, za_P, za_N, q]
      exact g8 a x ha (e1.symm.trans e)
  · by_cases q : a = r
    · subst q
      have e1 : (zs_sp S a n o4 o3).2 4 a 0 = o4 := by simp [zs_sp, za_P, za_N]
      exact h4 x (e1.symm.trans e)
    · have e1 : (zs_sp S r n o4 o3).2 4 a 0 = S.2 4 a 0 := by simp [zs_sp, za_P, za_N, q]
      exact g9 a x ha (e1.symm.trans e)
  · have ha' : S.1 0 1 0 ≤ a := ha
    exact (if_neg (by omega) : (zs_sp S r n o4 o3).1 6 a 0 = S.1 6 a 0).trans (g16 a ha').2.1
theorem zs_I_pt {S : za_S} (hI : zs_I S) {r : Nat} (hr : r < S.1 0 1 0) : zs_I (zs_pt S r).1 := by
  obtain ⟨n, o4, o3, hn, e, h4, h3, -⟩ := zs_pt_f S r
  rw [e]
  refine zs_I_sp hI hr hn (fun x hx => ?_) (fun x hx => ?_)
  · rcases h4 with q | q
    · rw [q] at hx; cases hx
    · exact (zs_cand_I hI (q.symm.trans hx)).1
  · rcases h3 with q | q
    · exact hI.sp hr (q.symm.trans hx)
    · exact zs_cand_I hI (q.symm.trans hx)
theorem zs_I_put {S : za_S} (hI : zs_I S) {k : Nat} (hk : k < S.1 0 2 0 ∨ k = 8) (hk8 : k ≤ 8) (h8 : k = 8 → S.1 7 8 0 < 6 * S.1 0 3 0) (hn : k ≠ 8 → S.1 7 k 0 < S.1 0 3 0) (v : Option Nat) : zs_I (zs_put S k v) := by
  obtain ⟨⟨g1, g2, g3, g4, g5, g6, g7, g8, g9, g10, g11, g12, ⟨t1, t2, t3⟩, g14, g15, g16, g17⟩, g⟩ := hI
  have e7 : ∀ i, (zs_put S k v).1 7 i 0 = if i = k then S.1 7 k 0 + 1 else S.1 7 i 0 := by
    intro i
    by_cases q : i = k
    · rw [if_pos q]; exact if_pos ⟨rfl, q, rfl⟩
    · rw [if_neg q]; exact if_neg (by omega)
  refine ⟨⟨zs_N_B (zs_P_B g1 _ _ _ _) (by have := g1 7 k 0; have := g1 0 3 0; by_cases q : k = 8; (have := h8 q; subst q; omega); (have := hn q; omega)), g2, g3, g4, g5, g6, g7, g8, g9, g10, g11, g12, ⟨t1, ?_, fun i hi => ?_⟩, fun i j hj => ?_, g15, g16, fun i hi hi8 => ?_⟩, g⟩
  · rw [e7]
    show _ ≤ 6 * S.1 0 3 0
    split
    next q => have := h8 q.symm; subst q; omega
    next => exact t2
  · rw [e7]
    show _ ≤ S.1 0 3 0
    split
    next q => subst q; exact hn (by omega)
    next => exact t3 i hi
  · rw [e7] at hj
    by_cases q : i = k
    · subst q
      rw [if_pos rfl] at hj
      exact (if_neg (by omega) : (zs_put S i v).2 5 i j = S.2 5 i j).trans (g14 i j (by omega))
    · rw [if_neg q] at hj
      exact (if_neg (by omega) : (zs_put S k v).2 5 i j = S.2 5 i j).trans (g14 i j hj)
  · have hi' : S.1 0 2 0 ≤ i := hi
    rw [e7, if_neg (by omega)]
    exact g17 i hi' hi8
/-- a tick in the rooms below i -/
def zs_tv (S : za_S) (r : Nat) : Option Nat := some (10 * r + ((zs_pt S r).1.2 3 r 0).getD 0)
def zs_t1 (S : za_S) (r : Nat) : za_S := if (zs_pt S r).2 = true then zs_put (zs_pt S r).1 8 (zs_tv S r) else (zs_pt S r).1
def zs_tt (S : za_S) : Nat → za_S × Bool
  | 0 => (S, false)
  | i + 1 => if i < S.1 0 1 0 then (zs_t1 (zs_tt S i).1 i, (zs_tt S i).2 || (zs_pt (zs_tt S i).1 i).2) else zs_tt S i
theorem zs_tt_y {S : za_S} {i : Nat} (h : i < S.1 0 1 0) : zs_tt S (i + 1) = (zs_t1 (zs_tt S i).1 i, (zs_tt S i).2 || (zs_pt (zs_tt S i).1 i).2) := if_pos h
theorem zs_tt_n {S : za_S} {i : Nat} (h : ¬ i < S.1 0 1 0) : zs_tt S (i + 1) = zs_tt S i := if_neg h
theorem zs_pt_c (S : za_S) (r : Nat) : (zs_pt S r).1.1 0 = S.1 0 ∧ (zs_pt S r).1.1 7 = S.1 7 := by
  obtain ⟨n, o4, o3, hn, e, -⟩ := zs_pt_f S r
  rw [e]
  exact ⟨funext fun a => funext fun d => by simp [zs_sp, za_P, za_N], funext fun a => funext fun d => by simp [zs_sp, za_P, za_N]⟩
theorem zs_tt_f {S : za_S} (hI : zs_I S) (hT : S.1 7 8 0 + 6 ≤ 6 * S.1 0 3 0) : ∀ i, i ≤ 6 → zs_I (zs_tt S i).1 ∧ (zs_tt S i).1.1 0 = S.1 0 ∧ S.1 7 8 0 ≤ (zs_tt S i).1.1 7 8 0 ∧ (zs_tt S i).1.1 7 8 0 ≤ S.1 7 8 0 + i
  | 0, _ => ⟨hI, rfl, Nat.le_refl _, Nat.le_refl _⟩
  | i + 1, hi => by
    obtain ⟨h1, h2, h3, h4⟩ := zs_tt_f hI hT i (by omega)
    by_cases hr : i < S.1 0 1 0
    · rw [zs_tt_y hr]
      have hr' : i < (zs_tt S i).1.1 0 1 0 := by rw [h2]; exact hr
      have hI1 := zs_I_pt h1 hr'
      obtain ⟨c1, c2⟩ := zs_pt_c (zs_tt S i).1 i
      show zs_I (zs_t1 _ _) ∧ (zs_t1 _ _).1 0 = _ ∧ _ ≤ (zs_t1 _ _).1 7 8 0 ∧ (zs_t1 _ _).1 7 8 0 ≤ _
      unfold zs_t1
      split
      · have e7 : (zs_put (zs_pt (zs_tt S i).1 i).1 8 (zs_tv (zs_tt S i).1 i)).1 7 8 0 = (zs_tt S i).1.1 7 8 0 + 1 := (za_Ns _ _ _ _ _).trans (by rw [c2])
        refine ⟨zs_I_put hI1 (Or.inr rfl) (by omega) (fun _ => by rw [c1, c2, h2]; omega) (fun q => absurd rfl q) _, ?_, by omega, by omega⟩
        rw [← h2, ← c1]
        exact funext fun a => funext fun d => by simp [zs_put, za_P, za_N]
      · exact ⟨hI1, c1.trans h2, by rw [c2]; omega, by rw [c2]; omega⟩
    · rw [zs_tt_n hr]
      exact ⟨h1, h2, h3, by omega⟩
theorem zs_tt_mo {S : za_S} (hI : zs_I S) (hT : S.1 7 8 0 + 6 ≤ 6 * S.1 0 3 0) {i : Nat} : ∀ {j}, i ≤ j → j ≤ 6 → (zs_tt S i).1.1 7 8 0 ≤ (zs_tt S j).1.1 7 8 0
  | 0, h, _ => by
    have e : i = 0 := by omega
    subst e
    exact Nat.le_refl _
  | j + 1, h, hj => by
    by_cases e : i = j + 1
    · subst e
      exact Nat.le_refl _
    · refine Nat.le_trans (zs_tt_mo hI hT (j := j) (by omega) (by omega)) ?_
      by_cases hr : j < S.1 0 1 0
      · rw [zs_tt_y hr]
        obtain ⟨c1, c2⟩ := zs_pt_c (zs_tt S j).1 j
        show _ ≤ (zs_t1 _ _).1 7 8 0
        unfold zs_t1
        split
        · have e7 : (zs_put (zs_pt (zs_tt S j).1 j).1 8 (zs_tv (zs_tt S j).1 j)).1 7 8 0 = (zs_tt S j).1.1 7 8 0 + 1 := (za_Ns _ _ _ _ _).trans (by rw [c2])
          omega
        · rw [c2]
          exact Nat.le_refl _
      · rw [zs_tt_n hr]
        exact Nat.le_refl _
