
/-! ### what every call keeps -/
def zs_6 (S : za_S) : Prop := ∀ a, S.1 6 a 0 ≤ 2
theorem zd_mk {S S' X X2 : za_S} (h : zs_D S X) (hI : zs_I S') (e0 : S'.1 0 = S.1 0) (e7 : S'.1 7 = S.1 7) (e4 : S'.1 4 = S.1 4) (hf : zs_fv X X2) (hB : zs_B X2) (hok : zs_ok S' X2) : zs_D S' X2 := by
  obtain ⟨h1, h2, h3, h4, h5, h6⟩ := h
  refine ⟨hI, (zs_J_c h2 e0).fv hf, hB, hok, fun k hk => ?_, ?_, ?_⟩
  · rw [hf.1, e7]
    exact h5 k (by rw [← e0]; exact hk)
  · intro a
    rw [e4, e0]
    exact h6.1 a
  · rw [e0]
    exact h6.2
theorem zs_mv_1 (S : za_S) (p : Nat) (q : Option Nat) {c : Nat} (h5 : c ≠ 5) (h6 : c ≠ 6) : (zs_mv S p q).1 c = S.1 c := by
  have ho : ∀ r k, (zs_out S r p k).1 c = S.1 c := fun r k => by
    funext a d
    simp only [zs_out, za_P1, za_N1, zs_sh]
    rw [if_neg (fun z => h6 z.1), if_neg (fun z => h5 z.1)]
  have hm : (zs_mo S p).1 c = S.1 c := by
    unfold zs_mo
    split
    · rfl
    · exact ho _ _
  unfold zs_mv zs_mi
  split
  · exact hm
  · funext a d
    simp only [zs_in, za_P1, za_N1]
    rw [if_neg (fun z => h5 z.1), hm]
theorem zs_mv_6 {S : za_S} (h : zs_6 S) (p : Nat) (q : Option Nat) : zs_6 (zs_mv S p q) := by
  have ho : ∀ r k, zs_6 (zs_out S r p k) := fun r k a => by
    simp only [zs_out, za_P1, za_N1, zs_sh]
    have h1 := h a
    have h2 := h r
    (repeat' split) <;> omega
  have hm : zs_6 (zs_mo S p) := by
    unfold zs_mo
    split
    · exact h
    · exact ho _ _
  unfold zs_mv zs_mi
  split
  · exact hm
  · exact fun a => hm a
theorem zs_jn_1 (S : za_S) (a b : Nat) {c : Nat} (h5 : c ≠ 5) (h6 : c ≠ 6) : ∀ i, (zs_jn S a b i).1 c = S.1 c
  | 0 => rfl
  | i + 1 => by
    cases e : zs_at (zs_jn S a b i) a 0 with
    | none => rw [zs_jn_0 e]; exact zs_jn_1 S a b h5 h6 i
    | some p => rw [zs_jn_s e, zs_mv_1 _ _ _ h5 h6]; exact zs_jn_1 S a b h5 h6 i
theorem zs_jn_6 {S : za_S} (h : zs_6 S) (a b : Nat) : ∀ i, zs_6 (zs_jn S a b i)
  | 0 => h
  | i + 1 => by
    cases e : zs_at (zs_jn S a b i) a 0 with
    | none => rw [zs_jn_0 e]; exact zs_jn_6 h a b i
    | some p => rw [zs_jn_s e]; exact zs_mv_6 (zs_jn_6 h a b i) _ _
theorem zs_spl_1 (S : za_S) (a b : Nat) {c : Nat} (h5 : c ≠ 5) (h6 : c ≠ 6) : ∀ i, (zs_spl S a b i).1 c = S.1 c
  | 0 => rfl
  | i + 1 => by
    cases e : zs_at (zs_spl S a b i) a (i + 1) with
    | none => rw [zs_spl_0 e]; exact zs_spl_1 S a b h5 h6 i
    | some p => rw [zs_spl_s e, zs_mv_1 _ _ _ h5 h6]; exact zs_spl_1 S a b h5 h6 i
theorem zs_spl_6 {S : za_S} (h : zs_6 S) (a b : Nat) : ∀ i, zs_6 (zs_spl S a b i)
  | 0 => h
  | i + 1 => by
    cases e : zs_at (zs_spl S a b i) a (i + 1) with
    | none => rw [zs_spl_0 e]; exact zs_spl_6 h a b i
    | some p => rw [zs_spl_s e]; exact zs_mv_6 (zs_spl_6 h a b i) _ _
theorem zs_I_set {S : za_S} (h : zs_I S) {c p v : Nat} (hp : p < S.1 0 0 0) (hc : (c = 1 ∧ v ≤ 9999) ∨ (c = 2 ∧ v ≤ 3) ∨ (c = 3 ∧ v ≤ 99)) : zs_I (za_N S c p 0 v) := by
  obtain ⟨⟨g1, g2, g3, g4, g5, g6, g7, g8, g9, g10, g11, g12, g13, g14, g15, g16, g17⟩, g⟩ := h
  have e : ∀ c' a d, c' ≠ c → (za_N S c p 0 v).1 c' a d = S.1 c' a d := fun c' a d z => if_neg (fun y => z y.1)
  have ec : ∀ c', c' ≠ c → (za_N S c p 0 v).1 c' = S.1 c' := fun c' z => funext fun a => funext fun d => e c' a d z
  refine ⟨⟨zs_N_B g1 (by omega), ?_, ?_, ?_, ?_, ?_, ?_, ?_, ?_, ?_, ?_, fun a => ?_, ?_, ?_, fun a ha => ?_, ?_, ?_⟩, ?_⟩
  · rw [ec 0 (by omega)]; exact g2
  · rw [ec 5 (by omega)]; exact g3
  · rw [ec 0 (by omega), ec 5 (by omega)]; exact g4
  · rw [ec 0 (by omega), ec 5 (by omega)]; exact g5
  · rw [ec 5 (by omega)]; exact g6
  · rw [ec 0 (by omega)]; exact g7
  · rw [ec 0 (by omega)]; exact g8
  · rw [ec 0 (by omega)]; exact g9
  · rw [ec 0 (by omega)]; exact g10
  · rw [ec 0 (by omega), ec 9 (by omega)]; exact g11
  · obtain ⟨z1, z2, z3, z4⟩ := g12 a
    refine ⟨?_, ?_, ?_, ?_⟩
    · show (if _ then _ else _) ≤ _; split <;> omega
    · show (if _ then _ else _) ≤ _; split <;> omega
    · show (if _ then _ else _) ≤ _; split <;> omega
    · rw [ec 8 (by omega)]; exact z4
  · rw [ec 0 (by omega), ec 7 (by omega)]; exact g13
  · rw [ec 7 (by omega)]; exact g14
  · rw [ec 0 (by omega)] at ha
    obtain ⟨z1, z2, z3⟩ := g15 a ha
    have hn : ∀ c', (za_N S c p 0 v).1 c' a 0 = S.1 c' a 0 := fun c' => if_neg (fun y => by have := y.2.1; omega)
    rw [hn, hn, hn]
    exact ⟨z1, z2, z3⟩
  · rw [ec 0 (by omega), ec 5 (by omega), ec 6 (by omega)]; exact g16
  · rw [ec 0 (by omega), ec 7 (by omega), ec 8 (by omega)]; exact g17
  · rw [ec 0 (by omega)]; exact g
theorem zs_6_N {S : za_S} (h : zs_6 S) {c i v : Nat} (hc : c ≠ 6) : zs_6 (za_N S c i 0 v) := fun a => by
  rw [za_N1, if_neg (fun z => hc z.1.symm)]
  exact h a
/-- what one sees hangs on one's own room and on who is in it -/
theorem zs_ln_q {A B : za_S} {v : Nat} (h0 : B.2 0 v 0 = A.2 0 v 0) (h1 : B.2 1 v 0 = A.2 1 v 0) (hr : ∀ r, A.2 0 v 0 = some r → B.1 5 r 0 = A.1 5 r 0 ∧ B.2 3 r 0 = A.2 3 r 0 ∧ ∀ j, B.2 2 r j = A.2 2 r j) : zs_ln B v = zs_ln A v := by
  unfold zs_ln
  rw [h0]
  cases e : A.2 0 v 0 with
  | none => rfl
  | some r =>
    obtain ⟨r1, r2, r3⟩ := hr r e
    have hf : zs_first B v r = zs_first A v r := by
      unfold zs_first
      rw [h1, r2]
    have hs : ∀ i, zs_rest B v r i = zs_rest A v r i := by
      intro i
      induction i with
      | zero => unfold zs_rest; rw [hf]
      | succ i ih => unfold zs_rest; rw [ih, hf, r3]
    show zs_rest B v r (B.1 5 r 0) = zs_rest A v r (A.1 5 r 0)
    rw [r1, hs]
theorem zs_ch_q {A B : za_S} {v : Nat} (hl : zs_ln B v = zs_ln A v) (hb : B.1 1 v 0 = A.1 1 v 0) (h2 : ∀ x, B.1 2 x 0 = A.1 2 x 0) : zs_ch B v = zs_ch A v := by
  have ht : ∀ ly, zs_tk B ly = zs_tk A ly := fun ly => by
    funext w x
    unfold zs_tk
    rw [h2]
  have hh : ∀ ly L w, zs_hd B ly L w = zs_hd A ly L w := fun ly L w => by
    unfold zs_hd
    rw [ht]
  unfold zs_ch zs_fa
  rw [hl, ht, ht, ht, hh, hh, hb]
/-! a room more -/
def zk_x1 (X : za_S) (n : Nat) : za_S := za_P (za_N X 5 1 0 (n + 1)) 2 n 0 (some n)
theorem zs_D_nr {S X : za_S} (h : zs_D S X) (h6r : S.1 0 1 0 < 6) : zs_D (zs_nr S) (zk_x1 X (S.1 0 1 0)) := by
  obtain ⟨hI, hJ, hB, hok, hRe, hL⟩ := h
  have hI2 := zs_I_nr hI h6r
  have c1 : (zs_nr S).1 0 1 0 = S.1 0 1 0 + 1 := za_Ns _ _ _ _ _
  have hch : ∀ v, v < S.1 0 0 0 → zs_ch (zs_nr S) v = zs_ch S v := fun v hv =>
    zs_ch_q (zs_ln_q rfl rfl (fun r e => ⟨rfl, by
      have hr := hI.ro hv e
      unfold zs_nr
      rw [za_N2, za_P2, if_neg (by omega), za_P2, if_neg (fun z => by have := z.2.1; omega)], fun j => rfl⟩)) rfl (fun x => rfl)
  have hus : ∀ v, v < S.1 0 0 0 → zs_us (zs_nr S) v = zs_us S v := fun v hv => by
    unfold zs_us
    rw [hch v hv]
  refine ⟨hI2, ?_, zs_P_B (zs_N_B hB (by omega)) _ _ _ _, ⟨fun v hv hn p hp => ?_, ?_⟩, fun k hk => hRe k hk, hL.1, hL.2⟩
  · obtain ⟨j1, j2, j3, j4, j5, j6, j7, j8, j9⟩ := hJ
    refine ⟨j1, by rw [c1]; omega, j3, j4, ?_, j6, j7, fun j => ?_, j9⟩
    · rw [c1]
      show (za_N X 5 1 0 (S.1 0 1 0 + 1)).1 5 1 0 = _
      exact za_Ns _ _ _ _ _
    · rw [c1]
      show (if _ then _ else _) = _
      by_cases q : j = S.1 0 1 0
      · rw [if_pos ⟨rfl, q, rfl⟩, if_pos (by omega), q]
      · rw [if_neg (fun z => q z.2.1)]
        refine (j8 j).trans ?_
        by_cases z : j < S.1 0 1 0
        · rw [if_pos z, if_pos (by omega)]
        · rw [if_neg z, if_neg (by omega)]
  · rw [hch v hn]
    exact hok.1 v hv hn p hp
  · refine hok.2.trans ?_
    refine zs_sum_congr 10 (fun v hv => ?_)
    show (if v < S.1 0 0 0 then _ else 0) = if v < S.1 0 0 0 then _ else 0
    by_cases z : v < S.1 0 0 0
    · rw [if_pos z, if_pos z, hus v z]
    · rw [if_neg z, if_neg z]
theorem zs_nr_6 {S : za_S} (h : zs_6 S) : zs_6 (zs_nr S) := fun a => h a
/-! a person more -/
def zk_x2 (X : za_S) (n : Nat) : za_S := za_P (zk_x3 X n) 1 n 0 (some n)
theorem zs_D_np {S X : za_S} (h : zs_D S X) (h10 : S.1 0 0 0 < 10) {v : Nat} (hv : v ≤ 9999) : zs_D (zs_np S v) (zk_x2 X (S.1 0 0 0)) := by
  obtain ⟨hI, hJ, hB, hok, hRe, hL⟩ := h
  have c0 : (zs_np S v).1 0 0 0 = S.1 0 0 0 + 1 := za_Ns _ _ _ _ _
  have p0 : ∀ a, (zs_np S v).2 0 a 0 = if a = S.1 0 0 0 then none else S.2 0 a 0 := fun a => by
    unfold zs_np
    rw [za_N2, za_P2, if_neg (by omega), za_P2]
    by_cases q : a = S.1 0 0 0
    · rw [if_pos q, if_pos ⟨rfl, q, rfl⟩]
    · rw [if_neg q, if_neg (fun z => q z.2.1)]
      rfl
  have p1 : ∀ a, (zs_np S v).2 1 a 0 = if a = S.1 0 0 0 then none else S.2 1 a 0 := fun a => by
    unfold zs_np
    rw [za_N2, za_P2]
    by_cases q : a = S.1 0 0 0
    · rw [if_pos q, if_pos ⟨rfl, q, rfl⟩]
    · rw [if_neg q, if_neg (fun z => q z.2.1), za_P2, if_neg (by omega)]
      rfl
  have b1 : ∀ a, (zs_np S v).1 1 a 0 = if a = S.1 0 0 0 then v else S.1 1 a 0 := fun a => by
    show (za_N S 1 (S.1 0 0 0) 0 v).1 1 a 0 = _
    rw [za_N1]
    by_cases q : a = S.1 0 0 0
    · rw [if_pos q, if_pos ⟨rfl, q, rfl⟩]
    · rw [if_neg q, if_neg (fun z => q z.2.1)]
  have hI2 : zs_I (zs_np S v) := by
    obtain ⟨⟨g1, g2, g3, g4, g5, g6, g7, g8, g9, g10, g11, g12, g13, g14, g15, g16, g17⟩, g⟩ := hI
    refine ⟨⟨?_, ⟨by rw [c0]; omega, g2.2.1, g2.2.2⟩, g3, fun a r ha e => ?_, fun r j hj => ?_, g6, fun r i x e => by rw [c0]; exact Nat.lt_succ_of_lt (g7 r i x e), fun r x hr e => ?_, fun r x hr e => by rw [c0]; exact Nat.lt_succ_of_lt (g9 r x hr e), fun a q ha e => ?_, g11, fun a => ?_, g13, g14, fun a ha => g15 a (by rw [c0] at ha; omega), g16, g17⟩, fun a q ha e => ?_⟩
    · exact zs_N_B (zs_P_B (zs_P_B (zs_N_B g1 (by omega)) _ _ _ _) _ _ _ _) (by omega)
    · rw [p0] at e
      rw [c0] at ha
      split at e
      · cases e
      · exact g4 a r (by omega) e
    · obtain ⟨a, h1, h2, h3⟩ := g5 r j hj
      refine ⟨a, by rw [c0]; omega, h2, ?_⟩
      rw [p0, if_neg (by omega)]
      exact h3
    · obtain ⟨h1, h2⟩ := g8 r x hr e
      refine ⟨by rw [c0]; omega, ?_⟩
      rw [p0, if_neg (by omega)]
      exact h2
    · rw [p1] at e
      rw [c0] at ha ⊢
      split at e
      · cases e
      · obtain ⟨h1, h2⟩ := g10 a q (by omega) e
        exact ⟨by omega, h2⟩
    · refine ⟨?_, (g12 a).2⟩
      rw [b1]
      split
      · exact hv
      · exact (g12 a).1
    · rw [p1] at e
      rw [c0] at ha
      split at e
      · cases e
      next hn =>
        obtain ⟨h1, h2⟩ := g a q (by omega) e
        obtain ⟨h3, -⟩ := g10 a q (by omega) e
        rw [p0, p0, if_neg hn, if_neg (by omega)]
        exact ⟨h1, h2⟩
  have hch : ∀ a, a < S.1 0 0 0 → zs_ch (zs_np S v) a = zs_ch S a := fun a ha =>
    zs_ch_q (zs_ln_q (by rw [p0, if_neg (by omega)]) (by rw [p1, if_neg (by omega)]) (fun r e => ⟨rfl, rfl, fun j => rfl⟩)) (by rw [b1, if_neg (by omega)]) (fun x => rfl)
  have hnn := zs_us_n (S := zs_np S v) (v := S.1 0 0 0) (by rw [p0, if_pos rfl])
  have hX0 : ∀ a p, (zk_x2 X (S.1 0 0 0)).1 0 a p = if a = S.1 0 0 0 then 0 else X.1 0 a p := fun a p => by
    show (if 0 = 0 ∧ a = S.1 0 0 0 then 0 else X.1 0 a p) = _
    by_cases q : a = S.1 0 0 0
    · rw [if_pos q, if_pos ⟨rfl, q⟩]
    · rw [if_neg q, if_neg (fun z => q z.2)]
  refine ⟨hI2, ?_, ?_, ⟨fun a ha hn p hp => ?_, ?_⟩, fun k hk => hRe k hk, hL.1, hL.2⟩
  · obtain ⟨j1, j2, j3, j4, j5, j6, j7, j8, j9⟩ := hJ
    refine ⟨by rw [c0]; omega, j2, j3, ?_, j5, j6, fun j => ?_, j8, j9⟩
    · rw [c0]
      show (zk_x3 X (S.1 0 0 0)).1 5 0 0 = _
      exact za_Ns _ _ _ _ _
    · rw [c0]
      show (if _ then _ else X.2 1 j 0) = _
      by_cases q : j = S.1 0 0 0
      · rw [if_pos ⟨rfl, q, rfl⟩, if_pos (by omega), q]
      · rw [if_neg (fun z => q z.2.1)]
        refine (j7 j).trans ?_
        by_cases z : j < S.1 0 0 0
        · rw [if_pos z, if_pos (by omega)]
        · rw [if_neg z, if_neg (by omega)]
  · refine zs_P_B (zs_N_B (fun c i j => ?_) (by omega)) _ _ _ _
    show (if _ then _ else _) < _
    split
    · decide
    · exact hB c i j
  · rw [hX0]
    rw [c0] at hn
    by_cases q : a = S.1 0 0 0
    · rw [if_pos q, q]
      exact (hnn.2 p).symm
    · rw [if_neg q, hch a (by omega)]
      exact hok.1 a ha (by omega) p hp
  · refine (show (zk_x2 X (S.1 0 0 0)).1 3 0 0 = X.1 3 0 0 from rfl).trans (hok.2.trans ?_)
    refine zs_sum_congr 10 (fun a ha => ?_)
    show (if a < S.1 0 0 0 then _ else 0) = if a < (zs_np S v).1 0 0 0 then _ else 0
    rw [c0]
    by_cases z : a < S.1 0 0 0
    · rw [if_pos z, if_pos (by omega)]
      unfold zs_us
      rw [hch a z]
    · rw [if_neg z]
      by_cases q : a = S.1 0 0 0
      · rw [if_pos (by omega), q, hnn.1]
      · rw [if_neg (by omega)]
theorem zs_np_6 {S : za_S} (h : zs_6 S) (v : Nat) : zs_6 (zs_np S v) := fun a => h a
/-! a recorder more -/
def zk_x4 (X : za_S) (n q2 : Nat) : za_S := za_P (zk_xk X n q2) 3 n 0 (some n)
theorem zs_nk_se (S : za_S) (r : Nat) : zs_se S (zs_nk S r) := ⟨rfl, rfl, rfl, rfl, rfl, rfl, rfl, rfl⟩
theorem zs_D_nk {S X : za_S} (h : zs_D S X) (h8 : S.1 0 2 0 < 8) {r q2 : Nat} (hr : r < S.1 0 1 0) : zs_D (zs_nk S r) (zk_x4 X (S.1 0 2 0) q2) := by
  obtain ⟨hI, hJ, hB, hok, hRe, hL⟩ := h
  have c2 : (zs_nk S r).1 0 2 0 = S.1 0 2 0 + 1 := za_Ns _ _ _ _ _
  have f9 : ∀ k, (zs_nk S r).1 9 k 0 = if k = S.1 0 2 0 then r else S.1 9 k 0 := fun k => by
    show (za_N S 9 (S.1 0 2 0) 0 r).1 9 k 0 = _
    rw [za_N1]
    by_cases q : k = S.1 0 2 0
    · rw [if_pos q, if_pos ⟨rfl, q, rfl⟩]
    · rw [if_neg q, if_neg (fun z => q z.2.1)]
  have h7 : S.1 7 (S.1 0 2 0) 0 = 0 := (hI.1.2.2.2.2.2.2.2.2.2.2.2.2.2.2.2.2 _ (Nat.le_refl _) h8).1
  have hI2 : zs_I (zs_nk S r) := by
    obtain ⟨⟨g1, g2, g3, g4, g5, g6, g7, g8, g9, g10, g11, g12, g13, g14, g15, g16, g17⟩, g⟩ := hI
    refine ⟨⟨zs_N_B (zs_N_B g1 (by have := g2.2.1; omega)) (by omega), ⟨g2.1, g2.2.1, by rw [c2]; omega⟩, g3, g4, g5, g6, g7, g8, g9, g10, fun k hk => ?_, g12, g13, g14, g15, g16, fun k hk => g17 k (by rw [c2] at hk; omega)⟩, g⟩
    rw [f9]
    rw [c2] at hk
    show _ < S.1 0 1 0
    split
    · exact hr
    · exact g11 k (by omega)
  refine ⟨hI2, ?_, ?_, ⟨fun v hv hn p hp => ?_, ?_⟩, fun k hk => ?_, hL.1, hL.2⟩
  · obtain ⟨j1, j2, j3, j4, j5, j6, j7, j8, j9⟩ := hJ
    refine ⟨j1, j2, by rw [c2]; omega, j4, j5, ?_, j7, j8, fun j => ?_⟩
    · rw [c2]
      show (zk_xk X (S.1 0 2 0) q2).1 5 2 0 = _
      exact za_Ns _ _ _ _ _
    · rw [c2]
      show (if _ then _ else X.2 3 j 0) = _
      by_cases q : j = S.1 0 2 0
      · rw [if_pos ⟨rfl, q, rfl⟩, if_pos (by omega), q]
      · rw [if_neg (fun z => q z.2.1)]
        refine (j9 j).trans ?_
        by_cases z : j < S.1 0 2 0
        · rw [if_pos z, if_pos (by omega)]
        · rw [if_neg z, if_neg (by omega)]
  · exact zs_P_B (zs_N_B (zs_N_B (zs_P_B hB _ _ _ _) (by decide)) (by omega)) _ _ _ _
  · rw [(zs_nk_se S r).ch]
    exact hok.1 v hv hn p hp
  · exact hok.2.trans ((zs_nk_se S r).ua 10).symm
  · have e4 : (zk_x4 X (S.1 0 2 0) q2).1 4 k 0 = if k = S.1 0 2 0 then 16 else X.1 4 k 0 := by
      show (if 4 = 4 ∧ k = S.1 0 2 0 ∧ 0 = 0 then 16 else X.1 4 k 0) = _
      by_cases q : k = S.1 0 2 0
      · rw [if_pos q, if_pos ⟨rfl, q, rfl⟩]
      · rw [if_neg q, if_neg (fun z => q z.2.1)]
    have e7 : (zs_nk S r).1 7 k 0 = S.1 7 k 0 := rfl
    rw [e4, e7]
    rw [c2] at hk
    by_cases q : k = S.1 0 2 0
    · rw [if_pos q, q, h7]
      rfl
    · rw [if_neg q]
      exact hRe k (by omega)
theorem zs_nk_6 {S : za_S} (h : zs_6 S) (r : Nat) : zs_6 (zs_nk S r) := fun a => h a
