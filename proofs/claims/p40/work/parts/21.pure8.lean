
theorem zs_J_c {S S' X : za_S} (h : zs_J S X) (e : S'.1 0 = S.1 0) : zs_J S' X := by
  obtain ⟨h1, h2, h3, h4, h5, h6, h7, h8, h9⟩ := h
  exact ⟨by rw [e]; exact h1, by rw [e]; exact h2, by rw [e]; exact h3, by rw [e]; exact h4, by rw [e]; exact h5, by rw [e]; exact h6, by rw [e]; exact h7, by rw [e]; exact h8, by rw [e]; exact h9⟩
theorem zs_out_c (S : za_S) (r p k : Nat) : (zs_out S r p k).1 0 = S.1 0 := by
  funext a b
  simp [zs_out, za_N, za_P, zs_sh]
theorem zs_mo_c (S : za_S) (p : Nat) : (zs_mo S p).1 0 = S.1 0 := by
  unfold zs_mo
  split
  · rfl
  · exact zs_out_c _ _ _ _
theorem zs_in_c (S : za_S) (r p : Nat) : (zs_in S r p).1 0 = S.1 0 := by
  funext a b
  simp [zs_in, za_N, za_P]
theorem zs_mv_c (S : za_S) (p : Nat) (q : Option Nat) : (zs_mv S p q).1 0 = S.1 0 := by
  unfold zs_mv zs_mi
  split
  · exact zs_mo_c S p
  · rw [zs_in_c]
    exact zs_mo_c S p
theorem zs_out_B {S : za_S} (h : zs_B S) (r p k : Nat) : zs_B (zs_out S r p k) := by
  intro c i j
  have h1 := h c i j
  have h2 := h 5 r 0
  have h3 := h 6 r 0
  simp only [zs_out, za_P1, za_N1, zs_sh]
  (repeat' split) <;> omega
theorem za_Sx {A B : za_S} (h1 : ∀ c i j, A.1 c i j = B.1 c i j) (h2 : ∀ c i j, A.2 c i j = B.2 c i j) : A = B :=
  Prod.ext (funext fun c => funext fun i => funext fun j => h1 c i j) (funext fun c => funext fun i => funext fun j => h2 c i j)

/-! ### a move keeps the state's order -/
theorem zs_sh_q (S : za_S) (r k n : Nat) {c : Nat} (h : c ≠ 2) (i j : Nat) : (zs_sh S r k n).2 c i j = S.2 c i j := by
  unfold zs_sh
  exact if_neg (fun z => h z.1)
def zs_O (S : za_S) (r p k : Nat) : za_S := za_P (zs_out S r p k) 0 p 0 none
theorem zs_O_1 (S : za_S) (r p k : Nat) {c : Nat} (h5 : c ≠ 5) (h6 : c ≠ 6) : (zs_O S r p k).1 c = S.1 c := by
  funext i j
  have q5 : ¬ (c = 5 ∧ i = r ∧ j = 0) := fun z => h5 z.1
  have q6 : ¬ (c = 6 ∧ i = r ∧ j = 0) := fun z => h6 z.1
  unfold zs_O zs_out
  rw [za_P1, za_P1, za_N1, if_neg q6, za_P1, za_N1, if_neg q5]
  rfl
theorem zs_O_5 (S : za_S) (r p k a : Nat) : (zs_O S r p k).1 5 a 0 = if a = r then S.1 5 r 0 - 1 else S.1 5 a 0 := by
  unfold zs_O zs_out
  rw [za_P1, za_P1, za_N1, if_neg (by omega), za_P1, za_N1]
  by_cases q : a = r
  · rw [if_pos ⟨rfl, q, rfl⟩, if_pos q]
  · rw [if_neg (by omega), if_neg q]
    rfl
theorem zs_O_6 (S : za_S) (r p k : Nat) {a : Nat} (h : a ≠ r) : (zs_O S r p k).1 6 a 0 = S.1 6 a 0 := by
  unfold zs_O zs_out
  rw [za_P1, za_P1, za_N1, if_neg (by omega), za_P1, za_N1, if_neg (by omega)]
  rfl
theorem zs_O_q (S : za_S) (r p k : Nat) {c : Nat} (h0 : c ≠ 0) (h2 : c ≠ 2) (h3 : c ≠ 3) (h4 : c ≠ 4) : (zs_O S r p k).2 c = S.2 c := by
  funext i j
  unfold zs_O zs_out
  rw [za_P2, if_neg (fun z => h0 z.1), za_P2, if_neg (fun z => h4 z.1), za_N2, za_P2, if_neg (fun z => h3 z.1), za_N2]
  exact if_neg (fun z => h2 z.1)
theorem zs_O_0 (S : za_S) (r p k a : Nat) : (zs_O S r p k).2 0 a 0 = if a = p then none else S.2 0 a 0 := by
  unfold zs_O zs_out
  rw [za_P2]
  by_cases q : a = p
  · rw [if_pos ⟨rfl, q, rfl⟩, if_pos q]
  · rw [if_neg (by omega), if_neg q, za_P2, if_neg (by omega), za_N2, za_P2, if_neg (by omega), za_N2]
    exact zs_sh_q S r k _ (by decide) _ _
theorem zs_O_2 (S : za_S) (r p k a j : Nat) : (zs_O S r p k).2 2 a j = if a = r ∧ k ≤ j ∧ j < S.1 5 r 0 - 1 then S.2 2 r (j + 1) else S.2 2 a j := by
  unfold zs_O zs_out
  rw [za_P2, if_neg (by omega), za_P2, if_neg (by omega), za_N2, za_P2, if_neg (by omega), za_N2]
  show (if 2 = 2 ∧ a = r ∧ k ≤ j ∧ j < S.1 5 r 0 - 1 then S.2 2 r (j + 1) else S.2 2 a j) = _
  by_cases q : a = r ∧ k ≤ j ∧ j < S.1 5 r 0 - 1
  · rw [if_pos ⟨rfl, q⟩, if_pos q]
  · rw [if_neg (fun z => q z.2), if_neg q]
theorem zs_O_3 (S : za_S) (r p k a : Nat) : (zs_O S r p k).2 3 a 0 = if a = r then (if S.2 3 r 0 = some p then none else S.2 3 r 0) else S.2 3 a 0 := by
  unfold zs_O zs_out
  rw [za_P2, if_neg (by omega), za_P2, if_neg (by omega), za_N2, za_P2]
  by_cases q : a = r
  · rw [if_pos ⟨rfl, q, rfl⟩, if_pos q]
  · rw [if_neg (by omega), if_neg q, za_N2]
    exact zs_sh_q S r k _ (by decide) _ _
theorem zs_O_4 (S : za_S) (r p k a : Nat) : (zs_O S r p k).2 4 a 0 = if a = r then (if S.2 4 r 0 = some p then none else S.2 4 r 0) else S.2 4 a 0 := by
  unfold zs_O zs_out
  rw [za_P2, if_neg (by omega), za_P2]
  by_cases q : a = r
  · rw [if_pos ⟨rfl, q, rfl⟩, if_pos q]
  · rw [if_neg (by omega), if_neg q, za_N2, za_P2, if_neg (by omega), za_N2]
    exact zs_sh_q S r k _ (by decide) _ _
theorem zs_Q_O {S : za_S} (h : zs_Q S) {r p k : Nat} (hp : p < S.1 0 0 0) (hr : S.2 0 p 0 = some r) (hk : k < S.1 5 r 0) (hkp : S.2 2 r k = some p) : zs_Q (zs_O S r p k) := by
  have hrr := h.ro hp hr
  obtain ⟨g1, g2, g3, g4, g5, g6, g7, g8, g9, g10, g11, g12, g13, g14, g15, g16, g17⟩ := h
  have e1 := fun c h5 h6 => zs_O_1 S r p k (c := c) h5 h6
  have e5 := zs_O_5 S r p k
  have e0 := zs_O_0 S r p k
  have e2 := zs_O_2 S r p k
  have c0 : (zs_O S r p k).1 0 = S.1 0 := e1 0 (by decide) (by decide)
  refine ⟨fun c i j => ?_, by rw [c0]; exact g2, fun a => ?_, fun a r' ha e => ?_, fun r' j hj => ?_, fun r' j j' hj hj' e => ?_, fun r' i x e => ?_, fun a x ha e => ?_, fun a x ha e => ?_, ?_, ?_, ?_, ?_, ?_, ?_, fun a ha => ?_, ?_⟩
  · have := zs_out_B g1 r p k c i j
    unfold zs_O
    rw [za_P1]
    exact this
  · rw [e5]
    have := g3 a
    have := g3 r
    split <;> omega
  · rw [c0] at ha ⊢
    rw [e0] at e
    by_cases ap : a = p
    · rw [if_pos ap] at e; cases e
    · rw [if_neg ap] at e
      obtain ⟨k1, j, k2, k3⟩ := g4 a r' ha e
      refine ⟨k1, ?_⟩
      by_cases q : r' = r
      · subst q
        have hjk : j ≠ k := fun z => by
          rw [z, hkp] at k3
          exact ap (Option.some.inj k3).symm
        by_cases z : j < k
        · exact ⟨j, by rw [e5, if_pos rfl]; omega, by rw [e2, if_neg (by omega)]; exact k3⟩
        · exact ⟨j - 1, by rw [e5, if_pos rfl]; omega, by rw [e2, if_pos ⟨rfl, by omega, by omega⟩, show j - 1 + 1 = j by omega]; exact k3⟩
      · exact ⟨j, by rw [e5, if_neg q]; exact k2, by rw [e2, if_neg (fun z => q z.1)]; exact k3⟩
  · rw [c0]
    rw [e5] at hj
    by_cases q : r' = r
    · subst q
      rw [if_pos rfl] at hj
      by_cases z : k ≤ j
      · obtain ⟨a, k1, k2, k3⟩ := g5 r' (j + 1) (by omega)
        have ap : a ≠ p := fun w => by
          rw [w] at k2
          have := g6 r' (j + 1) k (by omega) hk (k2.trans hkp.symm)
          omega
        exact ⟨a, k1, by rw [e2, if_pos ⟨rfl, z, by omega⟩]; exact k2, by rw [e0, if_neg ap]; exact k3⟩
      · obtain ⟨a, k1, k2, k3⟩ := g5 r' j (by omega)
        have ap : a ≠ p := fun w => by
          rw [w] at k2
          have := g6 r' j k (by omega) hk (k2.trans hkp.symm)
          omega
        exact ⟨a, k1, by rw [e2, if_neg (by omega)]; exact k2, by rw [e0, if_neg ap]; exact k3⟩
    · rw [if_neg q] at hj
      obtain ⟨a, k1, k2, k3⟩ := g5 r' j hj
      have ap : a ≠ p := fun w => by
        rw [w, hr] at k3
        exact q (Option.some.inj k3).symm
      exact ⟨a, k1, by rw [e2, if_neg (fun z => q z.1)]; exact k2, by rw [e0, if_neg ap]; exact k3⟩
  · rw [e5] at hj hj'
    rw [e2, e2] at e
    by_cases q : r' = r
    · subst q
      rw [if_pos rfl] at hj hj'
      by_cases z : k ≤ j
      · rw [if_pos ⟨rfl, z, by omega⟩] at e
        by_cases z' : k ≤ j'
        · rw [if_pos ⟨rfl, z', by omega⟩] at e
          have := g6 r' _ _ (by omega) (by omega) e
          omega
        · rw [if_neg (by omega)] at e
          have := g6 r' _ _ (by omega) (by omega) e
          omega
      · rw [if_neg (by omega)] at e
        by_cases z' : k ≤ j'
        · rw [if_pos ⟨rfl, z', by omega⟩] at e
          have := g6 r' _ _ (by omega) (by omega) e
          omega
        · rw [if_neg (by omega)] at e
          exact g6 r' _ _ (by omega) (by omega) e
    · rw [if_neg q] at hj hj'
      rw [if_neg (fun z => q z.1), if_neg (fun z => q z.1)] at e
      exact g6 r' _ _ hj hj' e
  · rw [c0]
    rw [e2] at e
    split at e
    · exact g7 _ _ _ e
    · exact g7 _ _ _ e
  · rw [c0] at ha ⊢
    rw [zs_O_3] at e
    rw [e0]
    by_cases q : a = r
    · subst q
      rw [if_pos rfl] at e
      split at e
      next => cases e
      next z =>
        have xp : x ≠ p := fun w => z (by rw [← w]; exact e)
        obtain ⟨k1, k2⟩ := g8 a x ha e
        rw [if_neg xp]
        exact ⟨k1, k2⟩
    · rw [if_neg q] at e
      obtain ⟨k1, k2⟩ := g8 a x ha e
      have xp : x ≠ p := fun w => by
        rw [w, hr] at k2
        exact q (Option.some.inj k2).symm
      rw [if_neg xp]
      exact ⟨k1, k2⟩
  · rw [c0] at ha ⊢
    rw [zs_O_4] at e
    by_cases q : a = r
    · subst q
      rw [if_pos rfl] at e
      split at e
      next => cases e
      next z => exact g9 a x ha e
    · rw [if_neg q] at e
      exact g9 a x ha e
  · rw [c0, zs_O_q S r p k (c := 1) (by decide) (by decide) (by decide) (by decide)]; exact g10
  · rw [c0, e1 9 (by decide) (by decide)]; exact g11
  · rw [e1 1 (by decide) (by decide), e1 2 (by decide) (by decide), e1 3 (by decide) (by decide), e1 8 (by decide) (by decide)]; exact g12
  · rw [c0, e1 7 (by decide) (by decide)]; exact g13
  · rw [e1 7 (by decide) (by decide), zs_O_q S r p k (c := 5) (by decide) (by decide) (by decide) (by decide)]; exact g14
  · rw [c0, e1 2 (by decide) (by decide), e1 3 (by decide) (by decide), e1 4 (by decide) (by decide)]; exact g15
  · rw [c0] at ha
    have hne : a ≠ r := by omega
    obtain ⟨k1, k2, k3⟩ := g16 a ha
    exact ⟨by rw [e5, if_neg hne]; exact k1, by rw [zs_O_6 S r p k hne]; exact k2, fun j => by rw [e2, if_neg (fun z => hne z.1)]; exact k3 j⟩
  · rw [c0, e1 7 (by decide) (by decide), e1 8 (by decide) (by decide)]; exact g17
def zs_Ii (S : za_S) (t p : Nat) : za_S := za_P (zs_in S t p) 0 p 0 (some t)
theorem zs_Ii_1 (S : za_S) (t p : Nat) {c : Nat} (h5 : c ≠ 5) : (zs_Ii S t p).1 c = S.1 c := by
  funext i j
  unfold zs_Ii zs_in
  rw [za_P1, za_N1, if_neg (fun z => h5 z.1)]
  rfl
theorem zs_Ii_5 (S : za_S) (t p a : Nat) : (zs_Ii S t p).1 5 a 0 = if a = t then S.1 5 t 0 + 1 else S.1 5 a 0 := by
  unfold zs_Ii zs_in
  rw [za_P1, za_N1]
  by_cases q : a = t
  · rw [if_pos ⟨rfl, q, rfl⟩, if_pos q]
  · rw [if_neg (by omega), if_neg q]
    rfl
theorem zs_Ii_q (S : za_S) (t p : Nat) {c : Nat} (h0 : c ≠ 0) (h2 : c ≠ 2) : (zs_Ii S t p).2 c = S.2 c := by
  funext i j
  unfold zs_Ii zs_in
  rw [za_P2, if_neg (fun z => h0 z.1), za_N2, za_P2, if_neg (fun z => h2 z.1)]
theorem zs_Ii_0 (S : za_S) (t p a : Nat) : (zs_Ii S t p).2 0 a 0 = if a = p then some t else S.2 0 a 0 := by
  unfold zs_Ii zs_in
  rw [za_P2]
  by_cases q : a = p
  · rw [if_pos ⟨rfl, q, rfl⟩, if_pos q]
  · rw [if_neg (by omega), if_neg q, za_N2, za_P2, if_neg (by omega)]
theorem zs_Ii_2 (S : za_S) (t p a j : Nat) : (zs_Ii S t p).2 2 a j = if a = t ∧ j = S.1 5 t 0 then some p else S.2 2 a j := by
  unfold zs_Ii zs_in
  rw [za_P2, if_neg (by omega), za_N2, za_P2]
  by_cases q : a = t ∧ j = S.1 5 t 0
  · rw [if_pos ⟨rfl, q⟩, if_pos q]
  · rw [if_neg (fun z => q z.2), if_neg q]
theorem zs_Q_Ii {S : za_S} (h : zs_Q S) {t p : Nat} (hp : p < S.1 0 0 0) (ht : t < S.1 0 1 0) (hn : S.2 0 p 0 = none) : zs_Q (zs_Ii S t p) := by
  have hlt := zs_Q_lt h hp (t := t) (by rw [hn]; exact fun q => by cases q)
  obtain ⟨g1, g2, g3, g4, g5, g6, g7, g8, g9, g10, g11, g12, g13, g14, g15, g16, g17⟩ := h
  have e1 := fun c h5 => zs_Ii_1 S t p (c := c) h5
  have e5 := zs_Ii_5 S t p
  have e0 := zs_Ii_0 S t p
  have e2 := zs_Ii_2 S t p
  have eq := fun c h0 h2 => zs_Ii_q S t p (c := c) h0 h2
  have c0 : (zs_Ii S t p).1 0 = S.1 0 := e1 0 (by decide)
  refine ⟨fun c i j => ?_, by rw [c0]; exact g2, fun a => ?_, fun a r' ha e => ?_, fun r' j hj => ?_, fun r' j j' hj hj' e => ?_, fun r' i x e => ?_, fun a x ha e => ?_, ?_, ?_, ?_, ?_, ?_, ?_, ?_, fun a ha => ?_, ?_⟩
  · unfold zs_Ii zs_in
    rw [za_P1]
    exact zs_N_B (zs_P_B g1 _ _ _ _) (by omega) c i j
  · rw [e5]
    have := g3 a
    split <;> omega
  · rw [c0] at ha ⊢
    rw [e0] at e
    by_cases ap : a = p
    · rw [if_pos ap] at e
      cases e
      exact ⟨ht, S.1 5 t 0, by rw [e5, if_pos rfl]; omega, by rw [e2, if_pos ⟨rfl, rfl⟩, ap]⟩
    · rw [if_neg ap] at e
      obtain ⟨k1, j, k2, k3⟩ := g4 a r' ha e
      refine ⟨k1, j, ?_, ?_⟩
      · rw [e5]
        split
        next q => subst q; omega
        next => exact k2
      · rw [e2, if_neg (fun z => by obtain ⟨z1, z2⟩ := z; subst z1; omega)]
        exact k3
  · rw [c0]
    rw [e5] at hj
    by_cases q : r' = t ∧ j = S.1 5 t 0
    · obtain ⟨rfl, rfl⟩ := q
      exact ⟨p, hp, by rw [e2, if_pos ⟨rfl, rfl⟩], by rw [e0, if_pos rfl]⟩
    · have hj' : j < S.1 5 r' 0 := by
        split at hj
        next z => subst z; have : ¬ j = S.1 5 r' 0 := fun w => q ⟨rfl, w⟩; omega
        next => exact hj
      obtain ⟨a, k1, k2, k3⟩ := g5 r' j hj'
      have ap : a ≠ p := fun w => by rw [w, hn] at k3; cases k3
      exact ⟨a, k1, by rw [e2, if_neg q]; exact k2, by rw [e0, if_neg ap]; exact k3⟩
  · rw [e5] at hj hj'
    rw [e2, e2] at e
    have low : ∀ i, i < (if r' = t then S.1 5 t 0 + 1 else S.1 5 r' 0) → ¬ (r' = t ∧ i = S.1 5 t 0) → i < S.1 5 r' 0 := fun i hi hq => by
      split at hi
      next z => subst z; have : ¬ i = S.1 5 r' 0 := fun w => hq ⟨rfl, w⟩; omega
      next => exact hi
    have pin : ∀ i, i < S.1 5 r' 0 → S.2 2 r' i ≠ some p := fun i hi w => by
      obtain ⟨a, -, k2, k3⟩ := g5 r' i hi
      rw [w] at k2
      cases k2
      rw [hn] at k3
      cases k3
    by_cases q : r' = t ∧ j = S.1 5 t 0
    · by_cases q' : r' = t ∧ j' = S.1 5 t 0
      · omega
      · rw [if_pos q, if_neg q'] at e
        exact absurd e.symm (pin j' (low j' hj' q'))
    · by_cases q' : r' = t ∧ j' = S.1 5 t 0
      · rw [if_neg q, if_pos q'] at e
        exact absurd e (pin j (low j hj q))
      · rw [if_neg q, if_neg q'] at e
        exact g6 r' j j' (low j hj q) (low j' hj' q') e
  · rw [c0]
    rw [e2] at e
    split at e
    next => cases e; exact hp
    next => exact g7 _ _ _ e
  · rw [c0] at ha ⊢
    rw [eq 3 (by decide) (by decide)] at e
    obtain ⟨k1, k2⟩ := g8 a x ha e
    have xp : x ≠ p := fun w => by rw [w, hn] at k2; cases k2
    rw [e0, if_neg xp]
    exact ⟨k1, k2⟩
  · rw [c0, eq 4 (by decide) (by decide)]; exact g9
  · rw [c0, eq 1 (by decide) (by decide)]; exact g10
  · rw [c0, e1 9 (by decide)]; exact g11
  · rw [e1 1 (by decide), e1 2 (by decide), e1 3 (by decide), e1 8 (by decide)]; exact g12
  · rw [c0, e1 7 (by decide)]; exact g13
  · rw [e1 7 (by decide), eq 5 (by decide) (by decide)]; exact g14
  · rw [c0, e1 2 (by decide), e1 3 (by decide), e1 4 (by decide)]; exact g15
  · rw [c0] at ha
    have hne : a ≠ t := by omega
    obtain ⟨k1, k2, k3⟩ := g16 a ha
    exact ⟨by rw [e5, if_neg hne]; exact k1, by rw [e1 6 (by decide)]; exact k2, fun j => by rw [e2, if_neg (fun z => hne z.1)]; exact k3 j⟩
  · rw [c0, e1 7 (by decide), e1 8 (by decide)]; exact g17
theorem zs_Q_no {S : za_S} (h : zs_Q S) {p : Nat} (hp : p < S.1 0 0 0) : zs_Q (za_P (zs_mo S p) 0 p 0 none) ∧ (zs_mo S p).1 0 = S.1 0 := by
  refine ⟨?_, zs_mo_c S p⟩
  unfold zs_mo
  cases e : S.2 0 p 0 with
  | none =>
    have e9 : za_P S 0 p 0 none = S := za_Sx (fun _ _ _ => rfl) (fun c i j => by
      rw [za_P2]
      split
      next q => obtain ⟨rfl, rfl, rfl⟩ := q; exact e.symm
      next => rfl)
    show zs_Q (za_P S 0 p 0 none)
    rw [e9]
    exact h
  | some r => exact zs_Q_O h hp e (h.pl hp e) (zs_fd_yes _ _ _ (h.pl hp e))
theorem zs_W_mv0 {S : za_S} (h : zs_Q S) {p : Nat} (hp : p < S.1 0 0 0) {q : Option Nat} (hq : ∀ t, q = some t → t < S.1 0 1 0) : zs_Q (zs_mv S p q) := by
  obtain ⟨h1, h2⟩ := zs_Q_no h hp
  cases q with
  | none => exact h1
  | some t =>
    have c1 : (za_P (zs_mo S p) 0 p 0 none).1 0 = S.1 0 := h2
    have h3 := zs_Q_Ii h1 (t := t) (p := p) (by rw [c1]; exact hp) (by rw [c1]; exact hq t rfl) (za_Ps _ _ _ _ _)
    have e9 : zs_mv S p (some t) = zs_Ii (za_P (zs_mo S p) 0 p 0 none) t p := za_Sx (fun _ _ _ => rfl) (fun c i j => by
      unfold zs_mv zs_mi zs_Ii zs_in
      simp only [za_P2, za_N2, za_P1]
      by_cases z0 : c = 0 ∧ i = p ∧ j = 0
      · rw [if_pos z0, if_neg (by omega), if_pos z0]
      · rw [if_neg z0, if_neg z0, if_neg z0])
    rw [e9]
    exact h3
theorem zs_W_mv {S : za_S} (h : zs_Q S) {p : Nat} (hp : p < S.1 0 0 0) {q : Option Nat} (hq : ∀ t, q = some t → t < S.1 0 1 0) (hn : S.2 0 p 0 ≠ q) : zs_Q (zs_mv S p q) := zs_W_mv0 h hp hq
theorem zs_W_st {S : za_S} (h : zs_Q S) : zs_I (zs_st S 10) := zs_W_st0 h
/-- a room without p has place for p -/
theorem zs_Q.lt {S : za_S} (h : zs_Q S) {p t : Nat} (hp : p < S.1 0 0 0) (hn : S.2 0 p 0 ≠ some t) : S.1 5 t 0 < 10 := zs_Q_lt h hp hn
theorem zs_mo_5 {S : za_S} {p t : Nat} (hn : S.2 0 p 0 ≠ some t) : (zs_mo S p).1 5 t 0 = S.1 5 t 0 := by
  unfold zs_mo
  cases e : S.2 0 p 0 with
  | none => rfl
  | some r =>
    have hr : ¬ t = r := fun h => hn (by rw [e, h])
    simp [zs_out, za_N, za_P, zs_sh, hr]
theorem zs_mo_B {S : za_S} (h : zs_B S) (p : Nat) : zs_B (zs_mo S p) := by
  unfold zs_mo
  split
  · exact h
  · exact zs_out_B h _ _ _
theorem zs_Q.mro {S X : za_S} (h : zs_Q S) (hJ : zs_J S X) {p : Nat} (hp : p < S.1 0 0 0) : ∀ r, S.2 0 p 0 = some r → r < X.1 5 1 0 ∧ S.1 5 r 0 ≤ 10 ∧ (∀ j, j < S.1 5 r 0 → ∃ x, S.2 2 r j = some x) ∧ (∀ x, S.2 3 r 0 = some x → x < X.1 5 0 0) ∧ (∀ x, S.2 4 r 0 = some x → x < X.1 5 0 0) ∧ zs_pl S r p < S.1 5 r 0 := fun r e =>
  ⟨hJ.ro (h.ro hp e), h.sz r, fun j hj => by obtain ⟨a, -, h2, -⟩ := h.oc hj; exact ⟨a, h2⟩, fun x hx => hJ.pe (h.sp (h.ro hp e) hx).1, fun x hx => hJ.pe (h.ch (h.ro hp e) hx), h.pl hp e⟩
theorem zs_Q.mto {S X : za_S} (h : zs_Q S) (hJ : zs_J S X) {p : Nat} (hp : p < S.1 0 0 0) {q : Option Nat} (hq : ∀ t, q = some t → t < S.1 0 1 0) (hn : S.2 0 p 0 ≠ q) : ∀ t, q = some t → t < X.1 5 1 0 ∧ (zs_mo S p).1 5 t 0 < 10 := fun t e => by
  subst e
  exact ⟨hJ.ro (hq t rfl), by rw [zs_mo_5 hn]; exact h.lt hp hn⟩
