
/-! ### a tick of the model -/
theorem zs_sk_n {S : za_S} {r : Nat} (h : S.2 3 r 0 = none) (h2 : zs_cand S r = none) : za_P (za_N S 6 r 0 0) 4 r 0 none = zs_t1 S r := by
  unfold zs_t1
  rw [zs_pt_n h, h2]
  refine Eq.trans ?_ (if_neg (fun h => Bool.false_ne_true h)).symm
  refine za_Sx (fun _ _ _ => rfl) (fun c i j => ?_)
  simp only [zs_end, za_P2, za_N2]
  by_cases q : c = 3 ∧ i = r ∧ j = 0
  · obtain ⟨rfl, rfl, rfl⟩ := q
    rw [if_neg (by omega), if_pos ⟨rfl, rfl, rfl⟩]
    exact h
  · rw [if_neg q]
theorem zs_sk_s {S : za_S} {r p : Nat} (h : S.2 3 r 0 = none) (h2 : zs_cand S r = some p) : za_P (za_N (zs_put (za_P S 3 r 0 (some p)) 8 (some (10 * r + p))) 6 r 0 0) 4 r 0 none = zs_t1 S r := by
  unfold zs_t1 zs_tv
  rw [zs_pt_n h, h2]
  rw [if_pos (by rfl)]
  have e : (za_P (zs_end S r) 3 r 0 (some p)).2 3 r 0 = some p := za_Ps _ _ _ _ _
  show _ = zs_put (za_P (zs_end S r) 3 r 0 (some p)) 8 (some (10 * r + ((za_P (zs_end S r) 3 r 0 (some p)).2 3 r 0).getD 0))
  rw [e]
  refine za_Sx (fun c i j => ?_) (fun c i j => ?_)
  · simp only [zs_put, zs_end, za_P1, za_N1]
    (repeat' split) <;> first | rfl | omega
  · simp only [zs_put, zs_end, za_P1, za_P2, za_N1, za_N2]
    (repeat' split) <;> first | rfl | omega
theorem zs_sk_0 {S : za_S} {r : Nat} (h : S.2 3 r 0 ≠ none) (h2 : zs_lt S r (zs_cand S r) = false) : za_P (za_N S 6 r 0 0) 4 r 0 none = zs_t1 S r := by
  unfold zs_t1
  rw [zs_pt_0 h h2]
  rw [if_neg (fun h => Bool.false_ne_true h)]
  rfl
theorem zs_sk_1 {S : za_S} {r n : Nat} {o : Option Nat} (h : S.2 3 r 0 ≠ none) (h2 : zs_lt S r (zs_cand S r) = true) (hn : n = zs_chn S r) (ho : zs_cand S r = o) (h3 : n < 3) : za_P (za_N S 6 r 0 n) 4 r 0 o = zs_t1 S r := by
  subst hn
  subst ho
  unfold zs_t1
  rw [zs_pt_1 h h2 h3]
  rw [if_neg (fun h => Bool.false_ne_true h)]
theorem zs_sk_2 {S : za_S} {r n p : Nat} (h : S.2 3 r 0 ≠ none) (h2 : zs_lt S r (zs_cand S r) = true) (hn : n = zs_chn S r) (ho : zs_cand S r = some p) (h3 : ¬ n < 3) : za_P (za_N (zs_put (za_P (za_P (za_N S 6 r 0 n) 4 r 0 (some p)) 3 r 0 (some p)) 8 (some (10 * r + p))) 6 r 0 0) 4 r 0 none = zs_t1 S r := by
  unfold zs_t1 zs_tv
  rw [zs_pt_2 h h2 (by rw [← hn]; exact h3), ← hn, ho]
  rw [if_pos (by rfl)]
  show _ = zs_put _ 8 (some (10 * r + ((zs_end (za_P (za_P (za_N S 6 r 0 n) 4 r 0 (some p)) 3 r 0 (some p)) r).2 3 r 0).getD 0))
  have e : (zs_end (za_P (za_P (za_N S 6 r 0 n) 4 r 0 (some p)) 3 r 0 (some p)) r).2 3 r 0 = some p := by simp [zs_end, za_P, za_N]
  rw [e]
  refine za_Sx (fun c i j => ?_) (fun c i j => ?_)
  · simp only [zs_put, zs_end, za_P1, za_N1]
    (repeat' split) <;> first | rfl | omega
  · simp only [zs_put, zs_end, za_P1, za_P2, za_N1, za_N2]
    (repeat' split) <;> first | rfl | omega
theorem zs_lt_d {S : za_S} {r p q : Nat} (h : S.2 3 r 0 = some q) : zs_lt S r (some p) = decide (S.1 3 q 0 + 5 ≤ S.1 3 p 0) := by
  unfold zs_lt
  simp only [h]
/-- the number of ticks alone -/
def zs_u (S : za_S) (n : Nat) : za_S := za_N S 0 3 0 n
theorem zs_u_u (S : za_S) (n m : Nat) : zs_u (zs_u S n) m = zs_u S m := by
  refine za_Sx (fun c i j => ?_) (fun _ _ _ => rfl)
  simp only [zs_u, za_N1]
  split <;> rfl
theorem zs_loud_u (S : za_S) (n r : Nat) : ∀ i, zs_loud (zs_u S n) r i = zs_loud S r i
  | 0 => rfl
  | i + 1 => by
    unfold zs_loud
    rw [zs_loud_u S n r i]
    rfl
theorem zs_cand_u (S : za_S) (n r : Nat) : zs_cand (zs_u S n) r = zs_cand S r := by
  unfold zs_cand
  rw [show (zs_u S n).1 5 r 0 = S.1 5 r 0 from rfl, zs_loud_u]
  rfl
theorem zs_pt_u (S : za_S) (n r : Nat) : zs_pt (zs_u S n) r = (zs_u (zs_pt S r).1 n, (zs_pt S r).2) := by
  have hc := zs_cand_u S n r
  have hl : ∀ o, zs_lt (zs_u S n) r o = zs_lt S r o := fun o => rfl
  have hn : zs_chn (zs_u S n) r = zs_chn S r := by
    unfold zs_chn
    rw [hc]
    rfl
  unfold zs_pt
  rw [hc, hl, hn]
  rw [show (zs_u S n).2 3 r 0 = S.2 3 r 0 from rfl]
  split
  · refine Prod.ext (za_Sx (fun c i j => ?_) (fun _ _ _ => rfl)) rfl
    simp only [zs_end, zs_u, za_P1, za_N1]
    (repeat' split) <;> first | rfl | omega
  · split
    · refine Prod.ext (za_Sx (fun c i j => ?_) (fun _ _ _ => rfl)) rfl
      simp only [zs_end, zs_u, za_P1, za_N1]
      (repeat' split) <;> first | rfl | omega
    · split
      · refine Prod.ext (za_Sx (fun c i j => ?_) (fun _ _ _ => rfl)) rfl
        simp only [zs_end, zs_u, za_P1, za_N1]
        (repeat' split) <;> first | rfl | omega
      · refine Prod.ext (za_Sx (fun c i j => ?_) (fun _ _ _ => rfl)) rfl
        simp only [zs_end, zs_u, za_P1, za_N1]
        (repeat' split) <;> first | rfl | omega
theorem zs_put_u (S : za_S) (n k : Nat) (v : Option Nat) : zs_put (zs_u S n) k v = zs_u (zs_put S k v) n := by
  refine za_Sx (fun c i j => ?_) (fun _ _ _ => rfl)
  simp only [zs_put, zs_u, za_P1, za_N1]
  (repeat' split) <;> first | rfl | omega
theorem zs_t1_u (S : za_S) (n r : Nat) : zs_t1 (zs_u S n) r = zs_u (zs_t1 S r) n := by
  unfold zs_t1 zs_tv
  rw [zs_pt_u]
  show (if (zs_pt S r).2 = true then zs_put (zs_u (zs_pt S r).1 n) 8 (some (10 * r + ((zs_u (zs_pt S r).1 n).2 3 r 0).getD 0)) else zs_u (zs_pt S r).1 n) = _
  split
  · rw [zs_put_u]
    rfl
  · rfl
theorem zs_tt_a {S : za_S} : ∀ d, (zs_tt S (S.1 0 1 0 + d)).1 = (zs_tt S (S.1 0 1 0)).1
  | 0 => rfl
  | d + 1 => (congrArg Prod.fst (zs_tt_n (Nat.not_lt.mpr (Nat.le_add_right _ _)))).trans (zs_tt_a d)
theorem zs_tt_6 {S : za_S} (h : S.1 0 1 0 ≤ 6) : (zs_tt S (S.1 0 1 0)).1 = (zs_tt S 6).1 := by
  rw [← zs_tt_a (6 - S.1 0 1 0)]
  exact congrArg (fun z => (zs_tt S z).1) (by omega)
theorem zs_ta_u (S : za_S) (n : Nat) : ∀ i, zs_ta (zs_u S n) i = zs_u (zs_ta S i) n
  | 0 => rfl
  | i + 1 => by
    by_cases h : i < S.1 0 1 0
    · rw [zs_ta_y h, zs_ta_y (show i < (zs_u S n).1 0 1 0 from h), zs_ta_u S n i]
      cases e : (zs_ta S i).2 3 i 0 with
      | none => rw [zs_tk1_n e, zs_tk1_n (show (zs_u (zs_ta S i) n).2 3 i 0 = none from e)]
      | some q =>
        rw [zs_tk1_s e, zs_tk1_s (show (zs_u (zs_ta S i) n).2 3 i 0 = some q from e)]
        refine za_Sx (fun c a d => ?_) (fun _ _ _ => rfl)
        simp only [zs_u, za_N1]
        (repeat' split) <;> first | rfl | omega
    · rw [zs_ta_0 S i h, zs_ta_0 (zs_u S n) i h]
      exact zs_ta_u S n i
theorem zs_ta_a {S : za_S} : ∀ d, zs_ta S (S.1 0 1 0 + d) = zs_ta S (S.1 0 1 0)
  | 0 => rfl
  | d + 1 => (zs_ta_0 S _ (Nat.not_lt.mpr (Nat.le_add_right _ _))).trans (zs_ta_a d)
theorem zs_ta_6 {S : za_S} (h : S.1 0 1 0 ≤ 6) : zs_ta S (S.1 0 1 0) = zs_ta S 6 := by
  rw [← zs_ta_a (6 - S.1 0 1 0)]
  exact congrArg (zs_ta S) (by omega)
theorem zs_nt_u (S : za_S) (n : Nat) : ∀ i, zs_nt (zs_u S n) i = zs_u (zs_nt S i) n
  | 0 => rfl
  | i + 1 => by
    by_cases h : i < S.1 0 2 0 ∧ S.1 8 i 0 = 0
    · rw [zs_nt_y h, zs_nt_y (show i < (zs_u S n).1 0 2 0 ∧ (zs_u S n).1 8 i 0 = 0 from h), zs_nt_u S n i, zs_put_u]
      rfl
    · rw [zs_nt_n h, zs_nt_n (show ¬ (i < (zs_u S n).1 0 2 0 ∧ (zs_u S n).1 8 i 0 = 0) from h)]
      exact zs_nt_u S n i
theorem zs_nt_a {S : za_S} : ∀ d, zs_nt S (S.1 0 2 0 + d) = zs_nt S (S.1 0 2 0)
  | 0 => rfl
  | d + 1 => (zs_nt_n (fun z => absurd z.1 (Nat.not_lt.mpr (Nat.le_add_right _ _)))).trans (zs_nt_a d)
theorem zs_nt_8 {S : za_S} (h : S.1 0 2 0 ≤ 8) : zs_nt S (S.1 0 2 0) = zs_nt S 8 := by
  rw [← zs_nt_a (8 - S.1 0 2 0)]
  exact congrArg (zs_nt S) (by omega)
theorem zs_se_u (S : za_S) (n : Nat) : zs_se S (za_N S 0 4 0 n) := by
  refine ⟨?_, ?_, ?_, rfl, rfl, rfl, rfl, ?_⟩
  · exact funext fun a => funext fun d => rfl
  · exact funext fun a => funext fun d => rfl
  · exact funext fun a => funext fun d => rfl
  · rfl
theorem zs_sum_a {f : Nat → Nat} {n : Nat} (h : ∀ j, n ≤ j → f j = 0) : ∀ d, zs_sum f (n + d) = zs_sum f n
  | 0 => rfl
  | d + 1 => by
    show zs_sum f (n + d) + f (n + d) = _
    rw [h (n + d) (Nat.le_add_right _ _), zs_sum_a h d]
    rfl
theorem zs_ua_a {S : za_S} (d : Nat) : zs_ua S (S.1 0 0 0 + d) = zs_ua S (S.1 0 0 0) := zs_sum_a (fun j hj => if_neg (Nat.not_lt.mpr hj)) d
theorem zs_ua_10 {S : za_S} (h : S.1 0 0 0 ≤ 10) : zs_ua S (S.1 0 0 0) = zs_ua S 10 := by
  rw [← zs_ua_a (10 - S.1 0 0 0)]
  exact congrArg (zs_ua S) (by omega)
/-- challenges stay below 3 -/
theorem zs_pt_6 {S : za_S} (h : ∀ a, S.1 6 a 0 ≤ 2) (r a : Nat) : (zs_pt S r).1.1 6 a 0 ≤ 2 := by
  obtain ⟨n, o4, o3, hn, e, -⟩ := zs_pt_f S r
  rw [e]
  show (if _ then _ else _) ≤ 2
  split
  · exact hn
  · exact h a
theorem zs_t1_6 {S : za_S} (h : ∀ a, S.1 6 a 0 ≤ 2) (r a : Nat) : (zs_t1 S r).1 6 a 0 ≤ 2 := by
  unfold zs_t1
  split
  · exact zs_pt_6 h r a
  · exact zs_pt_6 h r a
theorem zs_tt_6b {S : za_S} (h : ∀ a, S.1 6 a 0 ≤ 2) : ∀ i a, (zs_tt S i).1.1 6 a 0 ≤ 2
  | 0, a => h a
  | i + 1, a => by
    by_cases q : i < S.1 0 1 0
    · rw [zs_tt_y q]
      exact zs_t1_6 (zs_tt_6b h i) i a
    · rw [zs_tt_n q]
      exact zs_tt_6b h i a
theorem zs_u_i {S : za_S} {n : Nat} (h : S.1 0 3 0 = n) : zs_u S n = S := za_Nid S 0 3 0 n h
