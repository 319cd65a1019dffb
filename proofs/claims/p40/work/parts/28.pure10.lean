
/-- what views hang on is the same -/
def zs_se (A B : za_S) : Prop := B.1 1 = A.1 1 ∧ B.1 2 = A.1 2 ∧ B.1 5 = A.1 5 ∧ B.2 0 = A.2 0 ∧ B.2 1 = A.2 1 ∧ B.2 2 = A.2 2 ∧ B.2 3 = A.2 3 ∧ B.1 0 0 0 = A.1 0 0 0
theorem zs_se.rf (A : za_S) : zs_se A A := ⟨rfl, rfl, rfl, rfl, rfl, rfl, rfl, rfl⟩
theorem zs_se.tr {A B C : za_S} (h : zs_se A B) (g : zs_se B C) : zs_se A C := by
  obtain ⟨h1, h2, h3, h4, h5, h6, h7, h8⟩ := h
  obtain ⟨g1, g2, g3, g4, g5, g6, g7, g8⟩ := g
  exact ⟨g1.trans h1, g2.trans h2, g3.trans h3, g4.trans h4, g5.trans h5, g6.trans h6, g7.trans h7, g8.trans h8⟩
theorem zs_se.fi {A B : za_S} (h : zs_se A B) (v r : Nat) : zs_first B v r = zs_first A v r := by
  obtain ⟨h1, h2, h3, h4, h5, h6, h7, h8⟩ := h
  unfold zs_first
  rw [h5, h7]
theorem zs_se.re {A B : za_S} (h : zs_se A B) (v r : Nat) : ∀ i, zs_rest B v r i = zs_rest A v r i
  | 0 => by
    unfold zs_rest
    rw [h.fi]
  | i + 1 => by
    unfold zs_rest
    rw [zs_se.re h v r i, h.fi, h.2.2.2.2.2.1]
theorem zs_se.ln {A B : za_S} (h : zs_se A B) (v : Nat) : zs_ln B v = zs_ln A v := by
  have hr := h.re v
  unfold zs_ln
  rw [h.2.2.2.1, h.2.2.1]
  split
  · rfl
  · exact hr _ _
theorem zs_se.tk {A B : za_S} (h : zs_se A B) (ly : Nat) : zs_tk B ly = zs_tk A ly := by
  funext w x
  unfold zs_tk
  rw [h.2.1]
theorem zs_se.ch {A B : za_S} (h : zs_se A B) (v : Nat) : zs_ch B v = zs_ch A v := by
  have e1 := h.ln v
  have e2 := fun ly => h.tk ly
  have e3 : ∀ ly L w, zs_hd B ly L w = zs_hd A ly L w := fun ly L w => by
    unfold zs_hd
    rw [e2]
  unfold zs_ch zs_fa
  rw [e1, e2, e2, e2, e3, e3, h.1]
theorem zs_se.ua {A B : za_S} (h : zs_se A B) (n : Nat) : zs_ua B n = zs_ua A n := by
  unfold zs_ua zs_us
  rw [h.2.2.2.2.2.2.2]
  exact congrArg (fun f => zs_sum f n) (funext fun v => by rw [h.ch])
theorem zs_se.ok {A B X : za_S} (h : zs_se A B) (hk : zs_ok A X) : zs_ok B X :=
  ⟨fun v hv hn p hp => by rw [h.ch]; exact hk.1 v hv (by rw [← h.2.2.2.2.2.2.2]; exact hn) p hp, hk.2.trans (h.ua 10).symm⟩
theorem zl_X_ok {S X X2 : za_S} {k L : Nat} (h : zl_X X X2 k L) (hk : zs_ok S X) : zs_ok S X2 :=
  ⟨fun v hv hn p hp => by rw [h.2.1 0 v p (by omega)]; exact hk.1 v hv hn p hp, by rw [h.2.1 3 0 0 (by omega)]; exact hk.2⟩
theorem zs_pt_ns {S : za_S} {r : Nat} (h : (zs_pt S r).2 = false) : zs_se S (zs_pt S r).1 := by
  have key : ∃ n o4, (zs_pt S r).1 = zs_sp S r n o4 (S.2 3 r 0) := by
    unfold zs_pt at h ⊢
    split
    next g =>
      rw [if_pos g] at h
      have hc : zs_cand S r = none := by
        cases e : zs_cand S r with
        | none => rfl
        | some x => rw [e] at h; cases h
      exact ⟨0, none, by rw [hc, g]; exact za_Sx (fun _ _ _ => rfl) (fun _ _ _ => rfl)⟩
    next g =>
      rw [if_neg g] at h
      split
      next g2 =>
        refine ⟨0, none, za_Sx (fun _ _ _ => rfl) (fun c i j => ?_)⟩
        show _ = if _ then _ else _
        split
        next q => obtain ⟨rfl, rfl, rfl⟩ := q; simp [zs_end, za_P, za_N]
        next => rfl
      next g2 =>
        rw [if_neg g2] at h
        split
        next f =>
          refine ⟨zs_chn S r, zs_cand S r, za_Sx (fun _ _ _ => rfl) (fun c i j => ?_)⟩
          show _ = if _ then _ else _
          split
          next q => obtain ⟨rfl, rfl, rfl⟩ := q; simp [zs_end, za_P, za_N]
          next => rfl
        next f =>
          rw [if_neg f] at h
          cases h
  obtain ⟨n, o4, e⟩ := key
  rw [e]
  refine ⟨?_, ?_, ?_, ?_, ?_, ?_, ?_, ?_⟩
  · funext a d; simp [zs_sp, za_P, za_N]
  · funext a d; simp [zs_sp, za_P, za_N]
  · funext a d; simp [zs_sp, za_P, za_N]
  · funext a d; simp [zs_sp, za_P, za_N]
  · funext a d; simp [zs_sp, za_P, za_N]
  · funext a d; simp [zs_sp, za_P, za_N]
  · funext a d
    show (if _ then _ else _) = _
    split
    next q => obtain ⟨-, rfl, rfl⟩ := q; rfl
    next q => simp [za_P, za_N]
  · simp [zs_sp, za_P, za_N]
theorem zs_tt_ns {S : za_S} : ∀ {i}, (zs_tt S i).2 = false → zs_se S (zs_tt S i).1
  | 0, _ => zs_se.rf S
  | i + 1, h => by
    by_cases hr : i < S.1 0 1 0
    · rw [zs_tt_y hr] at h ⊢
      have h' : ((zs_tt S i).2 || (zs_pt (zs_tt S i).1 i).2) = false := h
      rw [Bool.or_eq_false_iff] at h'
      show zs_se S (zs_t1 _ _)
      unfold zs_t1
      rw [if_neg (by rw [h'.2]; decide)]
      exact (zs_tt_ns h'.1).tr (zs_pt_ns h'.2)
    · rw [zs_tt_n hr] at h ⊢
      exact zs_tt_ns h
/-! ### a tick -/
def zs_t0 (S : za_S) : za_S := za_N S 0 3 0 (S.1 0 3 0 + 1)
def zs_tk1 (S : za_S) (i : Nat) : za_S := match S.2 3 i 0 with
  | none => S
  | some q => za_N S 4 q 0 (S.1 4 q 0 + 1)
def zs_ta (S : za_S) : Nat → za_S
  | 0 => S
  | i + 1 => if i < S.1 0 1 0 then zs_tk1 (zs_ta S i) i else zs_ta S i
def zs_nt (S : za_S) : Nat → za_S
  | 0 => S
  | k + 1 => if k < S.1 0 2 0 ∧ S.1 8 k 0 = 0 then zs_put (zs_nt S k) k (S.2 3 (S.1 9 k 0) 0) else zs_nt S k
def zs_tA (S : za_S) : za_S := (zs_tt (zs_t0 S) 6).1
def zs_tB (S : za_S) : za_S := zs_ta (zs_tA S) 6
def zs_tC (S : za_S) : za_S := zs_nt (zs_tB S) 8
def zs_tick (S : za_S) : za_S := za_N (zs_tC S) 0 4 0 ((zs_tC S).1 0 4 0 + zs_ua (zs_tA S) 10)
/-- sums are bounded -/
def zs_L (S : za_S) : Prop := (∀ a, S.1 4 a 0 ≤ 6 * S.1 0 3 0) ∧ S.1 0 4 0 ≤ 160000 * S.1 0 3 0
/-- rows' arrays are as long as their growing makes them -/
def zs_Re (S X : za_S) : Prop := ∀ k, (k < S.1 0 2 0 ∨ k = 8) → X.1 4 k 0 = zl_len k (S.1 7 k 0)
def zs_ce (S : za_S) : Nat := zs_sum (fun k => zl_ce k (S.1 7 k 0)) 9
def zs_sl (S : za_S) : Nat := zs_sum (fun k => zl_sl k (S.1 7 k 0)) 9
theorem zs_sum_up {f g : Nat → Nat} {k : Nat} (h : ∀ j, j ≠ k → g j = f j) : ∀ n, zs_sum g n = if k < n then zs_sum f n - f k + g k else zs_sum f n
  | 0 => by rw [if_neg (Nat.not_lt_zero _)]; rfl
  | n + 1 => by
    have e := zs_sum_up h n
    have le : ∀ m, k < m → f k ≤ zs_sum f m := by
      intro m
      induction m with
      | zero => intro h; omega
      | succ m ih =>
        intro h
        show f k ≤ zs_sum f m + f m
        by_cases q : k = m
        · subst q; omega
        · have := ih (by omega); omega
    show zs_sum g n + g n = if k < n + 1 then zs_sum f n + f n - f k + g k else zs_sum f n + f n
    rw [e]
    by_cases q : k = n
    · subst q
      rw [if_neg (Nat.lt_irrefl _), if_pos (Nat.lt_succ_self _)]
      omega
    · rw [h n (Ne.symm q)]
      by_cases q2 : k < n
      · rw [if_pos q2, if_pos (by omega)]
        have := le n q2
        omega
      · rw [if_neg q2, if_neg (by omega)]
theorem zs_cost {A B : za_S} {k : Nat} (hk : k < 9) (h : ∀ j, j ≠ k → B.1 7 j 0 = A.1 7 j 0) (hm : A.1 7 k 0 ≤ B.1 7 k 0) (hl : B.1 7 k 0 ≤ zl_lim k) :
    zs_ce B = zs_ce A + (zl_ce k (B.1 7 k 0) - zl_ce k (A.1 7 k 0)) ∧ zs_sl B = zs_sl A + (zl_sl k (B.1 7 k 0) - zl_sl k (A.1 7 k 0)) := by
  obtain ⟨m1, m2⟩ := zl_mono (k := k) hm hl
  have le : ∀ (f : Nat → Nat) m, k < m → f k ≤ zs_sum f m := by
    intro f m
    induction m with
    | zero => intro h; omega
    | succ m ih =>
      intro h
      show f k ≤ zs_sum f m + f m
      by_cases q : k = m
      · subst q; omega
      · have := ih (by omega); omega
  have e1 := zs_sum_up (f := fun k => zl_ce k (A.1 7 k 0)) (g := fun k => zl_ce k (B.1 7 k 0)) (k := k) (fun j hj => by show zl_ce j _ = zl_ce j _; rw [h j hj]) 9
  have e2 := zs_sum_up (f := fun k => zl_sl k (A.1 7 k 0)) (g := fun k => zl_sl k (B.1 7 k 0)) (k := k) (fun j hj => by show zl_sl j _ = zl_sl j _; rw [h j hj]) 9
  rw [if_pos hk] at e1 e2
  have l1 := le (fun k => zl_ce k (A.1 7 k 0)) 9 hk
  have l2 := le (fun k => zl_sl k (A.1 7 k 0)) 9 hk
  refine ⟨?_, ?_⟩
  · show zs_sum _ 9 = zs_sum _ 9 + _
    rw [e1]
    have l1' : zl_ce k (A.1 7 k 0) ≤ zs_sum (fun k => zl_ce k (A.1 7 k 0)) 9 := l1
    show _ - zl_ce k (A.1 7 k 0) + zl_ce k (B.1 7 k 0) = _
    omega
  · show zs_sum _ 9 = zs_sum _ 9 + _
    rw [e2]
    have l2' : zl_sl k (A.1 7 k 0) ≤ zs_sum (fun k => zl_sl k (A.1 7 k 0)) 9 := l2
    show _ - zl_sl k (A.1 7 k 0) + zl_sl k (B.1 7 k 0) = _
    omega
