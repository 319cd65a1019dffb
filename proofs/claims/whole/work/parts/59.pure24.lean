
/-! ### means and shares -/
theorem zf_n64 {x : UInt64} (h : FP.dIsNaN x = false) : vf_n64 x := by
  have h1 := (Jvm.FP.Core.ne_nan x).mp ((Jvm.FP.Core.notNaN_iff x).mp h)
  unfold vf_n64
  rw [UInt64.le_iff_toNat_le, UInt64.toNat_and]
  rw [show (0x7fffffffffffffff : UInt64).toNat = 2 ^ 63 - 1 from rfl, Nat.and_two_pow_sub_one_eq_mod]
  exact h1
theorem zf_n32 {x : UInt32} (h : FP.fIsNaN x = false) : vf_n32 x := by
  have h1 := (Jvm.FP.Core.ne_nan32 x).mp ((Jvm.FP.Core.notNaN_iff32 x).mp h)
  unfold vf_n32
  rw [UInt32.le_iff_toNat_le, UInt32.toNat_and]
  rw [show (0x7fffffff : UInt32).toNat = 2 ^ 31 - 1 from rfl, Nat.and_two_pow_sub_one_eq_mod]
  exact h1
theorem zf_dd {a n : Nat} (h : n ≠ 0) (hb : n < 2 ^ 31) : FP.dIsNaN (FP.ddiv (FP.i2d (nI a)) (FP.i2d (nI n))) = false :=
  Jvm.FP.Core.ddiv_out ((Jvm.FP.Core.notNaN_iff _).mpr (Jvm.FP.Core.i2d_fin _).ne_nan) (Jvm.FP.Core.i2d_fin _) (fun q => Jvm.FP.Core.i2d_ne_zero (nI_ne0 (Nat.pos_of_ne_zero h) hb) ((Jvm.FP.Core.zero_bits2 _).mp q))
theorem zf_fd {n : Nat} (a : Nat) (h : n ≠ 0) (hb : n < 2 ^ 31) : FP.fIsNaN (FP.fdiv (FP.i2f (nI a)) (FP.i2f (nI n))) = false :=
  Jvm.FP.Core.fdiv_out ((Jvm.FP.Core.notNaN_iff32 _).mpr (Jvm.FP.Core.i2f_fin _).ne_nan) (Jvm.FP.Core.i2f_fin _) (fun q => Jvm.FP.Core.i2f_ne_zero (nI_ne0 (Nat.pos_of_ne_zero h) hb) ((Jvm.FP.Core.zero_bits232 _).mp q))
theorem zf_f2d {x : UInt32} (h : FP.fIsNaN x = false) : FP.dIsNaN (FP.f2d x) = false := by
  unfold FP.f2d
  rw [if_neg (show ¬ FP.Core.fIsNaN x = true from fun q => (by cases q.symm.trans h))]
  exact Jvm.FP.Core.f2d_out h
theorem zf_l2f {a : Nat} (h : a < 2 ^ 31) : FP.l2f (lN a) = FP.i2f (nI a) := by
  have e : (lN a).toInt = (nI a).toInt := by rw [nI_toInt h, lN_toInt h]
  show UInt32.ofNat (Jvm.FP.Core.fromInt _ (lN a).toInt) = UInt32.ofNat (Jvm.FP.Core.fromInt _ (nI a).toInt)
  rw [e]
theorem zf_self {x : UInt64} (h : FP.dIsNaN x = false) : FP.dcmp x x = some .eq := Jvm.FP.Core.dcmp_self ((Jvm.FP.Core.notNaN_iff x).mp h)
/-- two people, apart from each other, in one room -/
abbrev zt_ (S : za_S) (v q : Nat) : Prop := v < S.1 0 0 0 ∧ q < S.1 0 0 0 ∧ v ≠ q ∧ zs_tg S (some v) (some q) = true
/-- pairs, and the layers of all pairs -/
def zs_p1 (S : za_S) (v n : Nat) : Nat := zs_sum (fun q => if zt_ S v q then 1 else 0) n
def zs_l1 (S : za_S) (v n : Nat) : Nat := zs_sum (fun q => if zt_ S v q then (zs_ch S v).1 q else 0) n
def zs_mP (S : za_S) (n : Nat) : Nat := zs_sum (fun v => zs_p1 S v 10) n
def zs_mL (S : za_S) (n : Nat) : Nat := zs_sum (fun v => zs_l1 S v 10) n
def zs_bg (S : za_S) (n : Nat) : Nat := zs_sum (fun v => if v < S.1 0 0 0 then S.1 1 v 0 else 0) n
def zs_md (S : za_S) : UInt64 := FP.ddiv (FP.i2d (nI (zs_mL S 10))) (FP.i2d (nI (zs_mP S 10)))
def zs_shr (S : za_S) : UInt32 := FP.fdiv (FP.i2f (nI (zs_ua S 10))) (FP.i2f (nI (zs_bg S 10)))
def zo_md (S : za_S) : Nat := if zs_mP S 10 = 0 then 1 else 0
def zo_shr (S : za_S) : Nat := if zs_bg S 10 = 0 then 1 else 0
theorem zs_p1_le (S : za_S) (v n : Nat) : zs_p1 S v n ≤ n * 1 := zs_sum_le _ 1 (fun q => by show (if _ then _ else _) ≤ _; split <;> omega) n
theorem zs_mP_le (S : za_S) (n : Nat) : zs_mP S n ≤ n * 10 := zs_sum_le _ 10 (fun v => by have := zs_p1_le S v 10; show zs_p1 S v 10 ≤ _; omega) n
theorem zs_bg_le {S : za_S} (h : zs_I S) (n : Nat) : zs_bg S n ≤ n * 9999 := zs_sum_le _ 9999 (fun v => by have := h.1.2.2.2.2.2.2.2.2.2.2.2.1 v; show (if _ then _ else _) ≤ _; split <;> omega) n
theorem zo_md0 {S : za_S} (h : zo_md S = 0) : zs_mP S 10 ≠ 0 := fun q => by unfold zo_md at h; rw [if_pos q] at h; cases h
theorem zo_shr0 {S : za_S} (h : zo_shr S = 0) : zs_bg S 10 ≠ 0 := fun q => by unfold zo_shr at h; rw [if_pos q] at h; cases h
theorem zs_md_n {S : za_S} (h : zs_mP S 10 ≠ 0) : FP.dIsNaN (zs_md S) = false := zf_dd h (by have := zs_mP_le S 10; omega)
theorem zs_shr_n {S : za_S} (hI : zs_I S) (h : zs_bg S 10 ≠ 0) : FP.fIsNaN (zs_shr S) = false := zf_fd _ h (by have := zs_bg_le hI 10; omega)
theorem zs_ut (S : za_S) : zs_ua S 10 < 2 ^ 31 := by have := zs_ua_le S 10; omega
/-- the room's people, counted over all -/
def zs_rc (S : za_S) (r k : Nat) : Nat := zs_sum (fun q => if ∃ j, j < k ∧ S.2 2 r j = some q then 1 else 0) 10
theorem zs_rc_f {S : za_S} (h : zs_I S) (r : Nat) : ∀ k, k ≤ S.1 5 r 0 → zs_rc S r k = k
  | 0, _ => by
    unfold zs_rc
    rw [zs_sum_congr (g := fun _ => 0) 10 (fun q _ => if_neg (fun ⟨j, hj, _⟩ => Nat.not_lt_zero j hj))]
    rfl
  | k + 1, hk => by
    have ih := zs_rc_f h r k (by omega)
    obtain ⟨a, a1, a2, -⟩ := h.1.oc (r := r) (j := k) (by omega)
    have ha : a < 10 := by have := h.1.c.1; omega
    have e := zs_sum_up (f := fun q => if ∃ j, j < k ∧ S.2 2 r j = some q then 1 else 0) (g := fun q => if ∃ j, j < k + 1 ∧ S.2 2 r j = some q then 1 else 0) (k := a) (fun q hq => by
      show (if _ then _ else _) = (if _ then _ else _)
      by_cases z : ∃ j, j < k ∧ S.2 2 r j = some q
      · obtain ⟨j, z1, z2⟩ := z
        exact (if_pos ⟨j, by omega, z2⟩).trans (if_pos ⟨j, z1, z2⟩).symm
      · refine (if_neg (fun ⟨j, z1, z2⟩ => ?_)).trans (if_neg z).symm
        by_cases y : j = k
        · rw [y, a2] at z2; exact hq (Option.some.inj z2).symm
        · exact z ⟨j, by omega, z2⟩) 10
    rw [if_pos ha] at e
    have f1 : (if ∃ j, j < k ∧ S.2 2 r j = some a then 1 else 0) = 0 := if_neg (fun ⟨j, z1, z2⟩ => by have := h.1.un (r := r) (j := j) (k := k) (by omega) (by omega) (z2.trans a2.symm); omega)
    have f2 : (if ∃ j, j < k + 1 ∧ S.2 2 r j = some a then 1 else 0) = 1 := if_pos ⟨k, Nat.lt_succ_self k, a2⟩
    have e' : zs_rc S r (k + 1) = zs_rc S r k - (if ∃ j, j < k ∧ S.2 2 r j = some a then 1 else 0) + (if ∃ j, j < k + 1 ∧ S.2 2 r j = some a then 1 else 0) := e
    rw [f1, f2] at e'
    omega
theorem zs_p1_r {S : za_S} (h : zs_I S) {v r : Nat} (hv : v < S.1 0 0 0) (e : S.2 0 v 0 = some r) : zs_p1 S v 10 = S.1 5 r 0 - 1 := by
  have hc := zs_rc_f h r _ (Nat.le_refl _)
  have hv10 : v < 10 := by have := h.1.c.1; omega
  have u := zs_sum_up (f := fun q => if ∃ j, j < S.1 5 r 0 ∧ S.2 2 r j = some q then 1 else 0) (g := fun q => if zt_ S v q then 1 else 0) (k := v) (fun q hq => by
    show (if _ then _ else _) = (if _ then _ else _)
    by_cases z : ∃ j, j < S.1 5 r 0 ∧ S.2 2 r j = some q
    · rw [if_pos z]
      obtain ⟨j, z1, z2⟩ := z
      obtain ⟨a, a1, a2, a3⟩ := h.1.oc z1
      cases a2.symm.trans z2
      exact if_pos ⟨hv, a1, fun y => hq y.symm, decide_eq_true ⟨by rw [e]; exact fun y => (by cases y), by rw [e, a3]⟩⟩
    · rw [if_neg z]
      refine if_neg (fun ⟨_, y2, _, y4⟩ => z ?_)
      have y5 := (of_decide_eq_true y4).2
      obtain ⟨j, j1, j2⟩ := h.1.at y2 (y5.symm.trans e)
      exact ⟨j, j1, j2⟩) 10
  obtain ⟨j, j1, j2⟩ := h.1.at hv e
  rw [if_pos hv10, if_pos ⟨j, j1, j2⟩, if_neg (fun y => y.2.2.1 rfl)] at u
  have u' : zs_p1 S v 10 = zs_rc S r (S.1 5 r 0) - 1 + 0 := u
  omega
theorem zs_p1_n {S : za_S} {v : Nat} (e : S.2 0 v 0 = none) : zs_p1 S v 10 = 0 := by
  unfold zs_p1
  rw [zs_sum_congr (g := fun _ => 0) 10 (fun q _ => if_neg (fun y => (of_decide_eq_true y.2.2.2).1 e))]
  rfl
theorem zs_p1_o {S : za_S} {v : Nat} (e : S.1 0 0 0 ≤ v) : zs_p1 S v 10 = 0 ∧ zs_l1 S v 10 = 0 := by
  unfold zs_p1 zs_l1
  rw [zs_sum_congr (g := fun _ => 0) 10 (fun q _ => if_neg (fun y => by have := y.1; omega)), zs_sum_congr (f := fun q => if zt_ S v q then (zs_ch S v).1 q else 0) (g := fun _ => 0) 10 (fun q _ => if_neg (fun y => by have := y.1; omega))]
  exact ⟨rfl, rfl⟩
theorem zs_l1_s {S : za_S} (h : zs_I S) {v : Nat} (hv : v < S.1 0 0 0) : zs_l1 S v 10 = zs_sum (zs_ch S v).1 (S.1 0 0 0) := by
  have e : zs_l1 S v 10 = zs_sum (fun q => if q < S.1 0 0 0 then (zs_ch S v).1 q else 0) 10 := zs_sum_congr 10 (fun q _ => by
    show (if _ then _ else _) = (if _ then _ else _)
    by_cases z : zt_ S v q
    · rw [if_pos z, if_pos z.2.1]
    · rw [if_neg z]
      by_cases y : q < S.1 0 0 0
      · rw [if_pos y]
        refine (zs_ch_o S v (fun w => z ?_)).symm
        obtain ⟨w1, w2, w3⟩ := zs_ln_tg h hv w
        exact ⟨hv, w1, fun w4 => w2 w4.symm, w3⟩
      · rw [if_neg y])
  rw [e, ← zs_sum_congr (f := fun q => if q < S.1 0 0 0 then (zs_ch S v).1 q else 0) (g := (zs_ch S v).1) (S.1 0 0 0) (fun q hq => if_pos hq), ← zs_sum_a (f := fun q => if q < S.1 0 0 0 then (zs_ch S v).1 q else 0) (n := S.1 0 0 0) (fun j hj => if_neg (Nat.not_lt.mpr hj)) (10 - S.1 0 0 0)]
  have := h.1.c.1
  exact congrArg _ (by omega)
theorem zs_l1_0 {S : za_S} (h : zs_I S) {v : Nat} (hv : v < S.1 0 0 0) (hu : zs_us S v = 0) : zs_l1 S v 10 = 0 := by
  unfold zs_l1
  rw [zs_sum_congr (g := fun _ => 0) 10 (fun q hq => by show (if _ then _ else _) = _; rw [zs_us_0 hu q hq]; exact ite_self _)]
  rfl
theorem zs_p1_yes {S : za_S} {v q : Nat} (h : zt_ S v q) : zs_p1 S v (q + 1) = zs_p1 S v q + 1 ∧ zs_l1 S v (q + 1) = zs_l1 S v q + (zs_ch S v).1 q := ⟨congrArg (zs_p1 S v q + ·) (if_pos h), congrArg (zs_l1 S v q + ·) (if_pos h)⟩
theorem zs_p1_no {S : za_S} {v q : Nat} (h : ¬ zt_ S v q) : zs_p1 S v (q + 1) = zs_p1 S v q ∧ zs_l1 S v (q + 1) = zs_l1 S v q := ⟨congrArg (zs_p1 S v q + ·) (if_neg h), congrArg (zs_l1 S v q + ·) (if_neg h)⟩
theorem zs_mP_s (S : za_S) (v : Nat) : zs_mP S (v + 1) = zs_mP S v + zs_p1 S v 10 ∧ zs_mL S (v + 1) = zs_mL S v + zs_l1 S v 10 := ⟨rfl, rfl⟩
theorem zs_bg_s (S : za_S) (v : Nat) : zs_bg S (v + 1) = zs_bg S v + (if v < S.1 0 0 0 then S.1 1 v 0 else 0) := rfl
theorem zs_ua_s (S : za_S) (v : Nat) : zs_ua S (v + 1) = zs_ua S v + (if v < S.1 0 0 0 then zs_us S v else 0) := rfl
theorem zs_sum_s (f : Nat → Nat) (q : Nat) : zs_sum f (q + 1) = zs_sum f q + f q := rfl
theorem zs_m10 {S : za_S} (h : S.1 0 0 0 ≤ 10) : zs_mP S (S.1 0 0 0) = zs_mP S 10 ∧ zs_mL S (S.1 0 0 0) = zs_mL S 10 ∧ zs_bg S (S.1 0 0 0) = zs_bg S 10 ∧ zs_ua S (S.1 0 0 0) = zs_ua S 10 := by
  have e : S.1 0 0 0 + (10 - S.1 0 0 0) = 10 := by omega
  refine ⟨?_, ?_, ?_, ?_⟩
  · exact (zs_sum_a (f := fun v => zs_p1 S v 10) (fun j hj => (zs_p1_o hj).1) (10 - S.1 0 0 0)).symm.trans (congrArg _ e)
  · exact (zs_sum_a (f := fun v => zs_l1 S v 10) (fun j hj => (zs_p1_o hj).2) (10 - S.1 0 0 0)).symm.trans (congrArg _ e)
  · exact (zs_sum_a (f := fun v => if v < S.1 0 0 0 then S.1 1 v 0 else 0) (fun j hj => if_neg (Nat.not_lt.mpr hj)) (10 - S.1 0 0 0)).symm.trans (congrArg _ e)
  · exact (zs_ua_a (10 - S.1 0 0 0)).symm.trans (congrArg _ e)
