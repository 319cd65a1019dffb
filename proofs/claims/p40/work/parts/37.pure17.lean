
/-! ### the model: ranges, conditions -/
theorem zs_c1 {P : Prop} [Decidable P] (h : (if P then 1 else 0) ≠ 0) : P := Decidable.byContradiction (fun q => h (if_neg q))
theorem zs_c0 {P : Prop} [Decidable P] (h : (if P then 1 else 0) = 0) : ¬ P := fun q => by
  rw [if_pos q] at h
  cases h
theorem zs_cl (P : Prop) [Decidable P] : (if P then 1 else 0) < 2 ^ 31 := by split <;> decide
theorem zs_ixe {x : Int32} {n : Nat} (h : zs_ix x < n) (hn : n ≤ 2 ^ 31) : nI (zs_ix x) = x := by
  rcases zs_ixc x with ⟨-, e⟩ | ⟨k, hk, e, e2⟩
  · omega
  · rw [e2, e]
def zm_in (v lo hi : Int32) : Nat := if v < lo then 0 else if hi < v then 0 else 1
theorem zm_in_1 (v lo hi : Int32) : zm_in v lo hi = 0 ∨ zm_in v lo hi = 1 := by
  unfold zm_in
  split
  · exact Or.inl rfl
  · split
    · exact Or.inl rfl
    · exact Or.inr rfl
theorem zm_in_0 {n : Nat} (hn : n < 2 ^ 30) (v : Int32) : zm_in v (nI 0) (nI n - nI 1) = if zs_ix v < n then 1 else 0 := by
  unfold zm_in
  rcases zs_ixc v with ⟨h, e⟩ | ⟨k, hk, rfl, e2⟩
  · rw [if_pos (by rw [nI_0]; exact h), if_neg (by rw [e]; omega)]
  · rw [if_neg (by rw [nI_0]; exact nI_pos hk), e2]
    cases n with
    | zero =>
      rw [if_neg (Nat.not_lt_zero _), if_pos (Int32.lt_of_lt_of_le (by decide : nI 0 - nI 1 < 0) (nI_pos' hk))]
    | succ n =>
      rw [pk_sub (by omega : 1 ≤ n + 1)]
      by_cases q : k < n + 1
      · rw [if_pos q, if_neg (by rw [nI_ltI (by omega) hk]; omega)]
      · rw [if_neg q, if_pos ((nI_ltI (by omega) hk).mpr (by omega))]
theorem zm_in_n {lo n : Nat} (hn : n < 2 ^ 30) (hlo : lo < 2 ^ 30) (v : Int32) : zm_in v (nI lo) (nI n) = if lo ≤ zs_ix v ∧ zs_ix v ≤ n then 1 else 0 := by
  unfold zm_in
  rcases zs_ixc v with ⟨h, e⟩ | ⟨k, hk, rfl, e2⟩
  · rw [if_pos (Int32.lt_of_lt_of_le h (nI_pos' (by omega))), if_neg (by rw [e]; omega)]
  · rw [e2]
    by_cases q : k < lo
    · rw [if_pos ((nI_ltI hk (by omega)).mpr q), if_neg (by omega)]
    · rw [if_neg (by rw [nI_ltI hk (by omega)]; exact q)]
      by_cases q2 : n < k
      · rw [if_pos ((nI_ltI (by omega) hk).mpr q2), if_neg (by omega)]
      · rw [if_neg (by rw [nI_ltI (by omega) hk]; exact q2), if_pos (by omega)]
theorem zm_in_z {n : Nat} (hn : n < 2 ^ 30) (v : Int32) : zm_in v (nI 0) (nI n) = if zs_ix v ≤ n then 1 else 0 := by
  rw [zm_in_n hn (by decide)]
  by_cases q : zs_ix v ≤ n
  · rw [if_pos q, if_pos ⟨Nat.zero_le _, q⟩]
  · rw [if_neg q, if_neg (fun h => q h.2)]
/-- places of the row of who is where -/
theorem zs_wh {S : za_S} {r k j : Nat} {o : Option Nat} (hj : j = 10 * r + k) (hk : k < 10) (h : S.2 2 r k = o) : S.2 2 (j / 10) (j % 10) = o := by
  rw [hj, show (10 * r + k) / 10 = r by omega, show (10 * r + k) % 10 = k by omega]
  exact h
theorem zs_nh {S : za_S} {r k j : Nat} {o : Option Nat} (hj : j = 2000 * r + k) (hk : k < 2000) (h : S.2 5 r k = o) : S.2 5 (j / 2000) (j % 2000) = o := by
  rw [hj, show (2000 * r + k) / 2000 = r by omega, show (2000 * r + k) % 2000 = k by omega]
  exact h
/-- what the model asks -/
def zs_M (T Y : za_S) : Prop := zs_I T ∧ zs_L T ∧ (∀ r, T.1 6 r 0 ≤ 2) ∧ zs_B Y
def zy (Y : za_S) (n : Nat) : Prop := Y.1 0 0 0 = n ∧ zs_B Y
theorem zy_N {Y : za_S} (h : zs_B Y) {n : Nat} (hn : n < 2 ^ 30) : zy (za_N Y 0 0 0 n) n := ⟨za_Ns _ _ _ _ _, zs_N_B h hn⟩
/-! ### moves -/
theorem zs_go (S : za_S) (r p k : Nat) : za_P (za_N (za_P (za_P (za_N (zs_sh S r k (S.1 5 r 0 - 1)) 5 r 0 (S.1 5 r 0 - 1)) 0 p 0 none) 3 r 0 (if S.2 3 r 0 = some p then none else S.2 3 r 0)) 6 r 0 (if S.2 4 r 0 = some p then 0 else S.1 6 r 0)) 4 r 0 (if S.2 4 r 0 = some p then none else S.2 4 r 0) = za_P (zs_out S r p k) 0 p 0 none := by
  refine za_Sx (fun _ _ _ => rfl) (fun c i j => ?_)
  simp only [zs_out, za_P2, za_N2]
  by_cases h0 : c = 0 ∧ i = p ∧ j = 0
  · rw [if_neg (by omega), if_neg (by omega), if_pos h0, if_pos h0]
  · rw [if_neg h0, if_neg h0]
theorem zs_gi (A : za_S) (r p : Nat) (x : Option Nat) : za_P (zs_in (za_P A 0 p 0 x) r p) 0 p 0 (some r) = zs_mi (za_P A 0 p 0 (some r)) p (some r) := by
  refine za_Sx (fun _ _ _ => rfl) (fun c i j => ?_)
  simp only [zs_mi, zs_in, za_P2, za_N2, za_P1, za_N1]
  by_cases h0 : c = 0 ∧ i = p ∧ j = 0
  · rw [if_pos h0, if_neg (by omega), if_pos h0]
  · rw [if_neg h0, if_neg h0, if_neg h0]
theorem zs_gm {S : za_S} {p r : Nat} : za_P (zs_in (zs_mv S p none) r p) 0 p 0 (some r) = zs_mv S p (some r) := zs_gi (zs_mo S p) r p none
theorem zs_gn {S : za_S} {p r : Nat} (h : S.2 0 p 0 = none) : za_P (zs_in S r p) 0 p 0 (some r) = zs_mv S p (some r) := by
  have e : zs_mo S p = S := by simp only [zs_mo, h]
  have g := zs_gi (zs_mo S p) r p none
  rw [e, za_Pid S 0 p 0 none h] at g
  unfold zs_mv
  rw [e]
  exact g
theorem zs_mvn {S : za_S} {p r : Nat} (h : S.2 0 p 0 = some r) : zs_mv S p none = za_P (zs_out S r p (zs_pl S r p)) 0 p 0 none := by
  simp only [zs_mv, zs_mi, zs_mo, h]
theorem zs_st_w (S : za_S) {n : Nat} (h : n < S.1 0 0 0) : za_P (zs_st S n) 1 n 0 (if zs_tg S (some n) (S.2 1 n 0) = false then none else S.2 1 n 0) = zs_st S (n + 1) := by
  by_cases q : zs_tg S (some n) (S.2 1 n 0) = false
  · rw [if_pos q]
    exact zs_st_yes S n h q
  · rw [if_neg q, zs_st_no S n (fun z => q z.2)]
    exact za_Pid _ _ _ _ _ (if_neg (fun z => absurd z.2.2.1 (Nat.lt_irrefl _)))
theorem zs_st_all {S : za_S} {n : Nat} (h : S.1 0 0 0 ≤ n) (h10 : S.1 0 0 0 ≤ 10) : zs_st S n = zs_st S 10 := by
  refine Prod.ext rfl ?_
  funext c i j
  show (if _ then _ else _) = if _ then _ else _
  by_cases q : c = 1 ∧ j = 0 ∧ i < n ∧ i < S.1 0 0 0 ∧ zs_tg S (some i) (S.2 1 i 0) = false
  · rw [if_pos q, if_pos ⟨q.1, q.2.1, by omega, q.2.2.2⟩]
  · rw [if_neg q, if_neg (fun z => q ⟨z.1, z.2.1, by omega, z.2.2.2⟩)]
/-- a room is opened -/
def zs_nr (S : za_S) : za_S := za_N (za_P (za_P S 3 (S.1 0 1 0) 0 none) 4 (S.1 0 1 0) 0 none) 0 1 0 (S.1 0 1 0 + 1)
/-- the candidate among the first n -/
def zs_cd (S : za_S) (r n : Nat) : Option Nat := match zs_loud S r n with
  | none => none
  | some p => if 10 ≤ S.1 3 p 0 then some p else none
theorem zs_cd_c (S : za_S) (r : Nat) : zs_cd S r (S.1 5 r 0) = zs_cand S r := rfl
theorem zs_cd_s {S : za_S} {r n p : Nat} (h : S.2 2 r n = some p) : zs_cd S r (n + 1) = if 10 ≤ S.1 3 p 0 ∧ (∀ q, zs_cd S r n = some q → S.1 3 q 0 < S.1 3 p 0) then some p else zs_cd S r n := by
  unfold zs_cd
  simp only [zs_loud, h]
  cases e : zs_loud S r n with
  | none =>
    simp only
    by_cases q : 10 ≤ S.1 3 p 0
    · rw [if_pos q, if_pos ⟨q, fun _ z => by cases z⟩]
    · rw [if_neg q, if_neg (fun z => q z.1)]
  | some a =>
    simp only
    by_cases q1 : S.1 3 a 0 < S.1 3 p 0
    · rw [if_pos q1]
      simp only
      by_cases q : 10 ≤ S.1 3 p 0
      · rw [if_pos q, if_pos ⟨q, fun b z => by
          by_cases q2 : 10 ≤ S.1 3 a 0
          · rw [if_pos q2] at z; cases z; exact q1
          · rw [if_neg q2] at z; cases z⟩]
      · rw [if_neg q, if_neg (fun z => q (And.left z)), if_neg (by omega)]
    · rw [if_neg q1]
      simp only
      by_cases q2 : 10 ≤ S.1 3 a 0
      · rw [if_pos q2, if_neg (fun z => q1 (z.2 a rfl))]
      · rw [if_neg q2, if_neg (by omega)]
