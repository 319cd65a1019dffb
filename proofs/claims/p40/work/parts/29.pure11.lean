
theorem zs_J_3 {S S' X : za_S} (h : zs_J S X) (e0 : S'.1 0 0 0 = S.1 0 0 0) (e1 : S'.1 0 1 0 = S.1 0 1 0) (e2 : S'.1 0 2 0 = S.1 0 2 0) : zs_J S' X := by
  obtain ⟨h1, h2, h3, h4, h5, h6, h7, h8, h9⟩ := h
  exact ⟨by rw [e0]; exact h1, by rw [e1]; exact h2, by rw [e2]; exact h3, by rw [e0]; exact h4, by rw [e1]; exact h5, by rw [e2]; exact h6, by rw [e0]; exact h7, by rw [e1]; exact h8, by rw [e2]; exact h9⟩
theorem zs_I_t0 {S : za_S} (hI : zs_I S) (ht : S.1 0 3 0 < 2000) : zs_I (zs_t0 S) := by
  obtain ⟨⟨g1, g2, g3, g4, g5, g6, g7, g8, g9, g10, g11, g12, ⟨t1, t2, t3⟩, g14, g15, g16, g17⟩, g⟩ := hI
  exact ⟨⟨zs_N_B g1 (by omega), g2, g3, g4, g5, g6, g7, g8, g9, g10, g11, g12, ⟨by show S.1 0 3 0 + 1 ≤ 2000; omega, by show S.1 7 8 0 ≤ 6 * (S.1 0 3 0 + 1); omega, fun k hk => by have := t3 k hk; show S.1 7 k 0 ≤ S.1 0 3 0 + 1; omega⟩, g14, g15, g16, g17⟩, g⟩
theorem zs_I_talk {S : za_S} (hI : zs_I S) {q v : Nat} (hq : q < S.1 0 0 0) (hv : v < 2 ^ 30) : zs_I (za_N S 4 q 0 v) := by
  obtain ⟨⟨g1, g2, g3, g4, g5, g6, g7, g8, g9, g10, g11, g12, g13, g14, g15, g16, g17⟩, g⟩ := hI
  exact ⟨⟨zs_N_B g1 hv, g2, g3, g4, g5, g6, g7, g8, g9, g10, g11, g12, g13, g14, fun a ha => ⟨(g15 a ha).1, (g15 a ha).2.1, by have ha' : S.1 0 0 0 ≤ a := ha; exact (if_neg (by omega) : (za_N S 4 q 0 v).1 4 a 0 = S.1 4 a 0).trans (g15 a ha').2.2⟩, g16, g17⟩, g⟩
theorem zs_I_sent {S : za_S} (hI : zs_I S) {v : Nat} (hv : v < 2 ^ 30) : zs_I (za_N S 0 4 0 v) := by
  obtain ⟨⟨g1, g2, g3, g4, g5, g6, g7, g8, g9, g10, g11, g12, g13, g14, g15, g16, g17⟩, g⟩ := hI
  exact ⟨⟨zs_N_B g1 hv, g2, g3, g4, g5, g6, g7, g8, g9, g10, g11, g12, g13, g14, g15, g16, g17⟩, g⟩
theorem zs_ta_0 (S : za_S) (i : Nat) (h : ¬ i < S.1 0 1 0) : zs_ta S (i + 1) = zs_ta S i := if_neg h
theorem zs_ta_y {S : za_S} {i : Nat} (h : i < S.1 0 1 0) : zs_ta S (i + 1) = zs_tk1 (zs_ta S i) i := if_pos h
theorem zs_tk1_n {S : za_S} {i : Nat} (h : S.2 3 i 0 = none) : zs_tk1 S i = S := by
  unfold zs_tk1
  rw [h]
theorem zs_tk1_s {S : za_S} {i q : Nat} (h : S.2 3 i 0 = some q) : zs_tk1 S i = za_N S 4 q 0 (S.1 4 q 0 + 1) := by
  unfold zs_tk1
  rw [h]
theorem zs_ta_f {S : za_S} (hI : zs_I S) (hb : ∀ a, S.1 4 a 0 ≤ 20000) : ∀ i, zs_I (zs_ta S i) ∧ (zs_ta S i).2 = S.2 ∧ (∀ c, c ≠ 4 → (zs_ta S i).1 c = S.1 c) ∧ (i ≤ 6 → ∀ a, (zs_ta S i).1 4 a 0 ≤ S.1 4 a 0 + i)
  | 0 => ⟨hI, rfl, fun _ _ => rfl, fun _ _ => Nat.le_refl _⟩
  | i + 1 => by
    obtain ⟨h1, h2, h3, h4⟩ := zs_ta_f hI hb i
    by_cases hr : i < S.1 0 1 0
    · rw [zs_ta_y hr]
      cases e : (zs_ta S i).2 3 i 0 with
      | none =>
        rw [zs_tk1_n e]
        exact ⟨h1, h2, h3, fun hi a => by have := h4 (by omega) a; omega⟩
      | some q =>
        rw [zs_tk1_s e]
        have hi6 : i < 6 := by have := hI.c.2.1; omega
        have hr' : i < (zs_ta S i).1 0 1 0 := by rw [h3 0 (by decide)]; exact hr
        have hb4 := h4 (by omega) q
        have hbq := hb q
        refine ⟨zs_I_talk h1 (h1.sp hr' e).1 (by omega), h2, fun c hc => ?_, fun hi a => ?_⟩
        · rw [← h3 c hc]
          funext a d
          exact if_neg (by omega)
        · show (if _ then _ else _) ≤ _
          have := h4 (by omega) a
          split
          next q9 => obtain ⟨-, rfl, -⟩ := q9; show (zs_ta S i).1 4 a 0 + 1 ≤ S.1 4 a 0 + (i + 1); omega
          next => omega
    · rw [zs_ta_0 S i hr]
      exact ⟨h1, h2, h3, fun hi a => by have := h4 (by omega) a; omega⟩
theorem zs_ta_se {S : za_S} (hI : zs_I S) (hb : ∀ a, S.1 4 a 0 ≤ 20000) (i : Nat) : zs_se S (zs_ta S i) := by
  obtain ⟨h1, h2, h3, h4⟩ := zs_ta_f hI hb i
  exact ⟨h3 1 (by decide), h3 2 (by decide), h3 5 (by decide), by rw [h2], by rw [h2], by rw [h2], by rw [h2], by rw [h3 0 (by decide)]⟩
theorem zs_nt_n {S : za_S} {k : Nat} (h : ¬ (k < S.1 0 2 0 ∧ S.1 8 k 0 = 0)) : zs_nt S (k + 1) = zs_nt S k := if_neg h
theorem zs_nt_y {S : za_S} {k : Nat} (h : k < S.1 0 2 0 ∧ S.1 8 k 0 = 0) : zs_nt S (k + 1) = zs_put (zs_nt S k) k (S.2 3 (S.1 9 k 0) 0) := if_pos h
theorem zs_put_1 (S : za_S) (k : Nat) (v : Option Nat) {c : Nat} (h : c ≠ 7) : (zs_put S k v).1 c = S.1 c := by
  funext a d
  exact if_neg (by omega)
theorem zs_put_2 (S : za_S) (k : Nat) (v : Option Nat) {c : Nat} (h : c ≠ 5) : (zs_put S k v).2 c = S.2 c := by
  funext a d
  exact if_neg (by omega)
theorem zs_put_7 (S : za_S) (k : Nat) (v : Option Nat) (i : Nat) : (zs_put S k v).1 7 i 0 = if i = k then S.1 7 k 0 + 1 else S.1 7 i 0 := by
  by_cases q : i = k
  · rw [if_pos q]; exact if_pos ⟨rfl, q, rfl⟩
  · rw [if_neg q]; exact if_neg (by omega)
theorem zs_nt_f {S : za_S} (hI : zs_I S) (hn : ∀ k, k < 8 → S.1 7 k 0 < S.1 0 3 0) : ∀ i, i ≤ 8 → zs_I (zs_nt S i) ∧ (∀ c, c ≠ 7 → (zs_nt S i).1 c = S.1 c) ∧ (∀ c, c ≠ 5 → (zs_nt S i).2 c = S.2 c) ∧ (∀ k, i ≤ k → (zs_nt S i).1 7 k 0 = S.1 7 k 0)
  | 0, _ => ⟨hI, fun _ _ => rfl, fun _ _ => rfl, fun _ _ => rfl⟩
  | i + 1, hi => by
    obtain ⟨h1, h2, h3, h4⟩ := zs_nt_f hI hn i (by omega)
    by_cases hr : i < S.1 0 2 0 ∧ S.1 8 i 0 = 0
    · rw [zs_nt_y hr]
      refine ⟨zs_I_put h1 (Or.inl (by rw [h2 0 (by decide)]; exact hr.1)) (by omega) (fun q => by omega) (fun _ => by rw [h4 i (Nat.le_refl _), h2 0 (by decide)]; exact hn i (by omega)) _, fun c hc => ?_, fun c hc => ?_, fun k hk => ?_⟩
      · rw [zs_put_1 _ _ _ hc, h2 c hc]
      · rw [zs_put_2 _ _ _ hc, h3 c hc]
      · rw [zs_put_7, if_neg (by omega)]
        exact h4 k (by omega)
    · rw [zs_nt_n hr]
      exact ⟨h1, h2, h3, fun k hk => h4 k (by omega)⟩
theorem zs_nt_se {S : za_S} (hI : zs_I S) (hn : ∀ k, k < 8 → S.1 7 k 0 < S.1 0 3 0) {i : Nat} (hi : i ≤ 8) : zs_se S (zs_nt S i) := by
  obtain ⟨h1, h2, h3, h4⟩ := zs_nt_f hI hn i hi
  exact ⟨h2 1 (by decide), h2 2 (by decide), h2 5 (by decide), h3 0 (by decide), h3 1 (by decide), h3 2 (by decide), h3 3 (by decide), by rw [h2 0 (by decide)]⟩
theorem zs_nt_co {S : za_S} (hI : zs_I S) (hn : ∀ k, k < 8 → S.1 7 k 0 < S.1 0 3 0) {i : Nat} (hi : i < 8) (hr : i < S.1 0 2 0 ∧ S.1 8 i 0 = 0) :
    (zs_nt S (i + 1)).1 7 i 0 = (zs_nt S i).1 7 i 0 + 1 ∧ zs_ce (zs_nt S (i + 1)) = zs_ce (zs_nt S i) + (zl_ce i ((zs_nt S i).1 7 i 0 + 1) - zl_ce i ((zs_nt S i).1 7 i 0)) ∧ zs_sl (zs_nt S (i + 1)) = zs_sl (zs_nt S i) + (zl_sl i ((zs_nt S i).1 7 i 0 + 1) - zl_sl i ((zs_nt S i).1 7 i 0)) := by
  have e7 : (zs_nt S (i + 1)).1 7 i 0 = (zs_nt S i).1 7 i 0 + 1 := by rw [zs_nt_y hr, zs_put_7, if_pos rfl]
  obtain ⟨h1, h2, h3, h4⟩ := zs_nt_f hI hn i (by omega)
  have ht := hI.t.1
  have hni := hn i hi
  have hli : zl_lim i = 2000 := if_neg (by omega)
  have hc := zs_cost (A := zs_nt S i) (B := zs_nt S (i + 1)) (k := i) (by omega) (fun j hj => by rw [zs_nt_y hr, zs_put_7, if_neg hj]) (by omega) (by rw [e7, h4 i (Nat.le_refl _), hli]; omega)
  rw [e7] at hc
  exact ⟨e7, hc.1, hc.2⟩
theorem zs_nt_mo {S : za_S} (hI : zs_I S) (hn : ∀ k, k < 8 → S.1 7 k 0 < S.1 0 3 0) {i : Nat} : ∀ {j}, i ≤ j → j ≤ 8 → zs_ce (zs_nt S i) ≤ zs_ce (zs_nt S j) ∧ zs_sl (zs_nt S i) ≤ zs_sl (zs_nt S j)
  | 0, h, _ => by
    have e : i = 0 := by omega
    subst e
    exact ⟨Nat.le_refl _, Nat.le_refl _⟩
  | j + 1, h, hj => by
    by_cases e : i = j + 1
    · subst e
      exact ⟨Nat.le_refl _, Nat.le_refl _⟩
    · obtain ⟨a1, a2⟩ := zs_nt_mo hI hn (i := i) (j := j) (by omega) (by omega)
      by_cases hr : j < S.1 0 2 0 ∧ S.1 8 j 0 = 0
      · obtain ⟨-, c1, c2⟩ := zs_nt_co hI hn (by omega) hr
        omega
      · rw [zs_nt_n hr]
        exact ⟨a1, a2⟩
/-- what holds between any two calls -/
def zs_D (S X : za_S) : Prop := zs_I S ∧ zs_J S X ∧ zs_B X ∧ zs_ok S X ∧ zs_Re S X ∧ zs_L S
theorem zs_D.C {S X : za_S} (h : zs_D S X) : zs_C S X := by
  obtain ⟨h1, h2, h3, h4, h5, h6⟩ := h
  refine ⟨h1, h2, h3, h4, fun k hk => ?_⟩
  rw [h5 k hk]
  have ht := h1.t
  have hc := h1.c
  rcases hk with hk | hk
  · have h8 : k ≠ 8 := by omega
    rw [if_neg h8]
    have h9 := ht.2.2 k (by omega)
    by_cases q : S.1 7 k 0 < 2000
    · obtain ⟨a1, a2, a3, -⟩ := zl_step (k := k) (n := S.1 7 k 0) (by show _ < zl_lim k; unfold zl_lim; rw [if_neg h8]; exact q)
      unfold zl_lim at a3
      rw [if_neg h8] at a3
      exact ⟨a1, a3, a2⟩
    · obtain ⟨-, -, -, a1, a2, a3, -⟩ := zl_step (k := k) (n := 1999) (by show _ < zl_lim k; unfold zl_lim; rw [if_neg h8]; omega)
      obtain ⟨-, b1, -⟩ := zl_step (k := k) (n := 1999) (by show _ < zl_lim k; unfold zl_lim; rw [if_neg h8]; omega)
      unfold zl_lim at a1
      rw [if_neg h8] at a1
      rw [show S.1 7 k 0 = 1999 + 1 by omega]
      exact ⟨a2, a1, by omega⟩
  · subst hk
    rw [if_pos rfl]
    have h9 := ht.2.1
    by_cases q : S.1 7 8 0 < 12000
    · obtain ⟨a1, a2, a3, -⟩ := zl_step (k := 8) (n := S.1 7 8 0) q
      exact ⟨a1, a3, a2⟩
    · obtain ⟨-, -, -, a1, a2, a3, -⟩ := zl_step (k := 8) (n := 11999) (by show 11999 < 12000; omega)
      obtain ⟨-, b1, -⟩ := zl_step (k := 8) (n := 11999) (by show 11999 < 12000; omega)
      rw [show S.1 7 8 0 = 11999 + 1 by omega]
      exact ⟨a2, a1, by omega⟩
theorem zs_pt_o (S : za_S) (r : Nat) : (∀ c, c ≠ 6 → (zs_pt S r).1.1 c = S.1 c) ∧ ∀ c, c ≠ 3 → c ≠ 4 → (zs_pt S r).1.2 c = S.2 c := by
  obtain ⟨n, o4, o3, hn, e, -⟩ := zs_pt_f S r
  rw [e]
  exact ⟨fun c h => funext fun a => funext fun d => if_neg (fun q => h q.1), fun c h3 h4 => funext fun a => funext fun d => (if_neg (fun q => h3 q.1) : (zs_sp S r n o4 o3).2 c a d = (za_P (za_N S 6 r 0 n) 4 r 0 o4).2 c a d).trans (if_neg (fun q => h4 q.1))⟩
theorem zs_tt_o (S : za_S) : ∀ i, (∀ c, c ≠ 6 → c ≠ 7 → (zs_tt S i).1.1 c = S.1 c) ∧ (∀ k, k ≠ 8 → (zs_tt S i).1.1 7 k 0 = S.1 7 k 0) ∧ ∀ c, c ≠ 3 → c ≠ 4 → c ≠ 5 → (zs_tt S i).1.2 c = S.2 c
  | 0 => ⟨fun _ _ _ => rfl, fun _ _ => rfl, fun _ _ _ _ => rfl⟩
  | i + 1 => by
    obtain ⟨h1, h2, h3⟩ := zs_tt_o S i
    by_cases hr : i < S.1 0 1 0
    · rw [zs_tt_y hr]
      obtain ⟨p1, p2⟩ := zs_pt_o (zs_tt S i).1 i
      show (∀ c, c ≠ 6 → c ≠ 7 → (zs_t1 _ _).1 c = S.1 c) ∧ (∀ k, k ≠ 8 → (zs_t1 _ _).1 7 k 0 = S.1 7 k 0) ∧ ∀ c, c ≠ 3 → c ≠ 4 → c ≠ 5 → (zs_t1 _ _).2 c = S.2 c
      unfold zs_t1
      split
      · refine ⟨fun c a b => ?_, fun k a => ?_, fun c a b d => ?_⟩
        · rw [zs_put_1 _ _ _ b, p1 c a, h1 c a b]
        · rw [zs_put_7, if_neg a, p1 7 (by decide), h2 k a]
        · rw [zs_put_2 _ _ _ d, p2 c a b, h3 c a b d]
      · refine ⟨fun c a b => ?_, fun k a => ?_, fun c a b d => ?_⟩
        · rw [p1 c a, h1 c a b]
        · rw [p1 7 (by decide), h2 k a]
        · rw [p2 c a b, h3 c a b d]
    · rw [zs_tt_n hr]
      exact ⟨h1, h2, h3⟩
theorem zs_ce_7 {A B : za_S} (h : B.1 7 = A.1 7) : zs_ce B = zs_ce A ∧ zs_sl B = zs_sl A := by
  unfold zs_ce zs_sl
  rw [h]
  exact ⟨rfl, rfl⟩
/-- what a tick does, step by step -/
def zs_Tf (S : za_S) : Prop := (zs_I (zs_t0 S)) ∧ ((zs_t0 S).1 7 8 0 + 6 ≤ 6 * (zs_t0 S).1 0 3 0) ∧ (zs_I (zs_tA S)) ∧ ((zs_tA S).1 0 = (zs_t0 S).1 0) ∧ (∀ a, (zs_tA S).1 4 a 0 ≤ 20000) ∧ (zs_I (zs_tB S)) ∧ (∀ k, k < 8 → (zs_tB S).1 7 k 0 < (zs_tB S).1 0 3 0) ∧ (zs_I (zs_tC S)) ∧ (zs_se (zs_tA S) (zs_tC S)) ∧ (zs_ce (zs_tA S) = zs_ce S + (zl_ce 8 ((zs_tA S).1 7 8 0) - zl_ce 8 (S.1 7 8 0))) ∧ (zs_sl (zs_tA S) = zs_sl S + (zl_sl 8 ((zs_tA S).1 7 8 0) - zl_sl 8 (S.1 7 8 0))) ∧ (zs_ce (zs_tB S) = zs_ce (zs_tA S)) ∧ (zs_sl (zs_tB S) = zs_sl (zs_tA S)) ∧ (zs_ce (zs_tick S) = zs_ce (zs_tC S)) ∧ (zs_sl (zs_tick S) = zs_sl (zs_tC S)) ∧ (zs_I (zs_tick S)) ∧ (zs_L (zs_tick S)) ∧ (zs_se (zs_tC S) (zs_tick S)) ∧ ((zs_tB S).1 7 = (zs_tA S).1 7) ∧ ((zs_tB S).1 0 = (zs_tA S).1 0) ∧ ((zs_tB S).1 8 = (zs_tA S).1 8) ∧ (∀ k, k ≠ 8 → (zs_tA S).1 7 k 0 = S.1 7 k 0)
theorem zs_Tf.i0 {S : za_S} (h : zs_Tf S) : zs_I (zs_t0 S) := h.1
theorem zs_Tf.hT {S : za_S} (h : zs_Tf S) : (zs_t0 S).1 7 8 0 + 6 ≤ 6 * (zs_t0 S).1 0 3 0 := h.2.1
theorem zs_Tf.iA {S : za_S} (h : zs_Tf S) : zs_I (zs_tA S) := h.2.2.1
theorem zs_Tf.cA {S : za_S} (h : zs_Tf S) : (zs_tA S).1 0 = (zs_t0 S).1 0 := h.2.2.2.1
theorem zs_Tf.bA {S : za_S} (h : zs_Tf S) : ∀ a, (zs_tA S).1 4 a 0 ≤ 20000 := h.2.2.2.2.1
theorem zs_Tf.iB {S : za_S} (h : zs_Tf S) : zs_I (zs_tB S) := h.2.2.2.2.2.1
theorem zs_Tf.nB {S : za_S} (h : zs_Tf S) : ∀ k, k < 8 → (zs_tB S).1 7 k 0 < (zs_tB S).1 0 3 0 := h.2.2.2.2.2.2.1
theorem zs_Tf.iC {S : za_S} (h : zs_Tf S) : zs_I (zs_tC S) := h.2.2.2.2.2.2.2.1
theorem zs_Tf.sC {S : za_S} (h : zs_Tf S) : zs_se (zs_tA S) (zs_tC S) := h.2.2.2.2.2.2.2.2.1
theorem zs_Tf.k1 {S : za_S} (h : zs_Tf S) : zs_ce (zs_tA S) = zs_ce S + (zl_ce 8 ((zs_tA S).1 7 8 0) - zl_ce 8 (S.1 7 8 0)) := h.2.2.2.2.2.2.2.2.2.1
theorem zs_Tf.k2 {S : za_S} (h : zs_Tf S) : zs_sl (zs_tA S) = zs_sl S + (zl_sl 8 ((zs_tA S).1 7 8 0) - zl_sl 8 (S.1 7 8 0)) := h.2.2.2.2.2.2.2.2.2.2.1
theorem zs_Tf.k3 {S : za_S} (h : zs_Tf S) : zs_ce (zs_tB S) = zs_ce (zs_tA S) := h.2.2.2.2.2.2.2.2.2.2.2.1
theorem zs_Tf.k4 {S : za_S} (h : zs_Tf S) : zs_sl (zs_tB S) = zs_sl (zs_tA S) := h.2.2.2.2.2.2.2.2.2.2.2.2.1
theorem zs_Tf.k5 {S : za_S} (h : zs_Tf S) : zs_ce (zs_tick S) = zs_ce (zs_tC S) := h.2.2.2.2.2.2.2.2.2.2.2.2.2.1
theorem zs_Tf.k6 {S : za_S} (h : zs_Tf S) : zs_sl (zs_tick S) = zs_sl (zs_tC S) := h.2.2.2.2.2.2.2.2.2.2.2.2.2.2.1
theorem zs_Tf.iT {S : za_S} (h : zs_Tf S) : zs_I (zs_tick S) := h.2.2.2.2.2.2.2.2.2.2.2.2.2.2.2.1
theorem zs_Tf.lT {S : za_S} (h : zs_Tf S) : zs_L (zs_tick S) := h.2.2.2.2.2.2.2.2.2.2.2.2.2.2.2.2.1
theorem zs_Tf.sT {S : za_S} (h : zs_Tf S) : zs_se (zs_tC S) (zs_tick S) := h.2.2.2.2.2.2.2.2.2.2.2.2.2.2.2.2.2.1
theorem zs_Tf.b7 {S : za_S} (h : zs_Tf S) : (zs_tB S).1 7 = (zs_tA S).1 7 := h.2.2.2.2.2.2.2.2.2.2.2.2.2.2.2.2.2.2.1
theorem zs_Tf.b0 {S : za_S} (h : zs_Tf S) : (zs_tB S).1 0 = (zs_tA S).1 0 := h.2.2.2.2.2.2.2.2.2.2.2.2.2.2.2.2.2.2.2.1
theorem zs_Tf.b8 {S : za_S} (h : zs_Tf S) : (zs_tB S).1 8 = (zs_tA S).1 8 := h.2.2.2.2.2.2.2.2.2.2.2.2.2.2.2.2.2.2.2.2.1
theorem zs_Tf.a7 {S : za_S} (h : zs_Tf S) : ∀ k, k ≠ 8 → (zs_tA S).1 7 k 0 = S.1 7 k 0 := h.2.2.2.2.2.2.2.2.2.2.2.2.2.2.2.2.2.2.2.2.2
theorem zs_tick_1 (S : za_S) (c i j : Nat) (h : ¬ (c = 0 ∧ i = 4 ∧ j = 0)) : (zs_tick S).1 c i j = (zs_tC S).1 c i j := by
  unfold zs_tick
  rw [za_N1, if_neg h]
theorem zs_tick_f {S : za_S} (hI : zs_I S) (hL : zs_L S) (ht : S.1 0 3 0 < 2000) : zs_Tf S := by
  have i0 := zs_I_t0 hI ht
  have e03 : (zs_t0 S).1 0 3 0 = S.1 0 3 0 + 1 := za_Ns _ _ _ _ _
  have e078 : (zs_t0 S).1 7 8 0 = S.1 7 8 0 := rfl
  have htI := hI.t
  have hT : (zs_t0 S).1 7 8 0 + 6 ≤ 6 * (zs_t0 S).1 0 3 0 := by rw [e03, e078]; omega
  obtain ⟨iA, cA, mA, nA⟩ := zs_tt_f i0 hT 6 (Nat.le_refl 6)
  obtain ⟨o1, o2, o3⟩ := zs_tt_o (zs_t0 S) 6
  have a7 : ∀ k, k ≠ 8 → (zs_tA S).1 7 k 0 = S.1 7 k 0 := fun k hk => o2 k hk
  have a4 : (zs_tA S).1 4 = S.1 4 := o1 4 (by decide) (by decide)
  have cA' : (zs_tA S).1 0 = (zs_t0 S).1 0 := cA
  have bA : ∀ a, (zs_tA S).1 4 a 0 ≤ 20000 := fun a => by rw [a4]; have := hL.1 a; omega
  obtain ⟨iB, sB2, sB1, sB4⟩ := zs_ta_f iA bA 6
  have sB := zs_ta_se iA bA 6
  have iB' : zs_I (zs_tB S) := iB
  have b0 : (zs_tB S).1 0 = (zs_tA S).1 0 := sB1 0 (by decide)
  have b7 : (zs_tB S).1 7 = (zs_tA S).1 7 := sB1 7 (by decide)
  have nB : ∀ k, k < 8 → (zs_tB S).1 7 k 0 < (zs_tB S).1 0 3 0 := fun k hk => by
    rw [b0, b7, cA', e03, a7 k (by omega)]
    have := htI.2.2 k hk
    omega
  obtain ⟨iC, c1, c2, -⟩ := zs_nt_f iB' nB 8 (Nat.le_refl 8)
  have iC' : zs_I (zs_tC S) := iC
  have sC : zs_se (zs_tA S) (zs_tC S) := sB.tr (zs_nt_se iB' nB (Nat.le_refl 8))
  have hm8 : (zs_tA S).1 7 8 0 ≤ zl_lim 8 := by
    have := iA.t
    show _ ≤ 12000
    have e : (zs_tA S).1 7 8 0 = (zs_tt (zs_t0 S) 6).1.1 7 8 0 := rfl
    omega
  obtain ⟨k1, k2⟩ := zs_cost (A := S) (B := zs_tA S) (k := 8) (by omega) a7 mA hm8
  obtain ⟨k3, k4⟩ := zs_ce_7 b7
  have hua := zs_ua_le (zs_tA S) 10
  have e04 : (zs_tC S).1 0 4 0 = S.1 0 4 0 := by
    have h : (zs_tC S).1 0 = (zs_t0 S).1 0 := (c1 0 (by decide)).trans (b0.trans cA')
    rw [h]
    rfl
  have e0c : (zs_tC S).1 0 3 0 = S.1 0 3 0 + 1 := by
    have h : (zs_tC S).1 0 = (zs_t0 S).1 0 := (c1 0 (by decide)).trans (b0.trans cA')
    rw [h]
    exact e03
  have hL2 := hL.2
  have iT : zs_I (zs_tick S) := zs_I_sent iC' (by rw [e04]; omega)
  obtain ⟨k5, k6⟩ := zs_ce_7 (A := zs_tC S) (B := zs_tick S) (by funext a d; exact zs_tick_1 S 7 a d (by omega))
  refine ⟨i0, hT, iA, cA', bA, iB', nB, iC', sC, k1, k2, k3, k4, k5, k6, iT, ⟨fun a => ?_, ?_⟩, ?_, b7, b0, sB1 8 (by decide), a7⟩
  · have e1 : (zs_tick S).1 4 a 0 = (zs_tB S).1 4 a 0 := (zs_tick_1 S 4 a 0 (by omega)).trans (by rw [show (zs_tC S).1 4 = (zs_tB S).1 4 from c1 4 (by decide)])
    have e2 : (zs_tick S).1 0 3 0 = (zs_tC S).1 0 3 0 := zs_tick_1 S 0 3 0 (by omega)
    have e3 : (zs_tB S).1 4 a 0 ≤ (zs_tA S).1 4 a 0 + 6 := sB4 (Nat.le_refl 6) a
    have e5 := hL.1 a
    rw [a4] at e3
    rw [e1, e2, e0c]
    omega
  · have e1 : (zs_tick S).1 0 4 0 = (zs_tC S).1 0 4 0 + zs_ua (zs_tA S) 10 := za_Ns _ _ _ _ _
    have e2 : (zs_tick S).1 0 3 0 = (zs_tC S).1 0 3 0 := zs_tick_1 S 0 3 0 (by omega)
    rw [e1, e2, e0c, e04]
    omega
  · refine ⟨?_, ?_, ?_, rfl, rfl, rfl, rfl, ?_⟩
    · funext a d; exact zs_tick_1 S 1 a d (by omega)
    · funext a d; exact zs_tick_1 S 2 a d (by omega)
    · funext a d; exact zs_tick_1 S 5 a d (by omega)
    · exact zs_tick_1 S 0 0 0 (by omega)
