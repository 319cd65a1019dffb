
/-! ### what one uses, as the model finds it -/
def zs_tm (S : za_S) (ly : Nat) (w : zs_W) (x : Nat) : zs_W := if S.1 2 x 0 < ly ∨ w.2 < zs_need ly - zs_need (w.1 x) then w else (fun q => if q = x then ly else w.1 q, w.2 - (zs_need ly - zs_need (w.1 x)))
theorem zs_nm {a c : Nat} (h : a ≤ c) (h3 : c ≤ 3) : zs_need a ≤ zs_need c := by
  have hc : c = 0 ∨ c = 1 ∨ c = 2 ∨ c = 3 := by omega
  have ha : a = 0 ∨ a = 1 ∨ a = 2 ∨ a = 3 := by omega
  rcases hc with rfl | rfl | rfl | rfl <;> rcases ha with rfl | rfl | rfl | rfl <;> first | decide | omega
theorem zs_tm_k {S : za_S} {ly : Nat} {w : zs_W} {x : Nat} (h : w.1 x = ly - 1) : zs_tm S ly w x = zs_tk S ly w x := by
  unfold zs_tm zs_tk
  rw [h]
  by_cases q : S.1 2 x 0 < ly ∨ w.2 < zs_need ly - zs_need (ly - 1)
  · rw [if_pos q, if_neg (by omega)]
  · rw [if_neg q, if_pos ⟨rfl, by omega, by omega⟩]
theorem zs_tm_s {S : za_S} {ly : Nat} {w : zs_W} {x : Nat} (h : w.1 x = ly) (hl : 1 ≤ ly) : zs_tm S ly w x = zs_tk S ly w x := by
  have e1 : zs_tk S ly w x = w := by
    unfold zs_tk
    rw [if_neg (by omega)]
  rw [e1]
  unfold zs_tm
  rw [h, Nat.sub_self]
  split
  · rfl
  · refine Prod.ext (funext fun q => ?_) rfl
    show (if q = x then ly else w.1 q) = w.1 q
    split
    next z => rw [z, h]
    next => rfl
theorem zs_tm_f {S : za_S} {ly : Nat} {w : zs_W} {x : Nat} (h : w.1 x ≠ ly - 1) (h2 : S.1 2 x 0 < ly ∨ w.2 < zs_need ly - zs_need (w.1 x)) : zs_tm S ly w x = zs_tk S ly w x := by
  unfold zs_tm zs_tk
  rw [if_pos h2, if_neg (fun z => h z.1)]
theorem zs_tk_le {S : za_S} {ly c : Nat} (hl : ly ≤ c) {w : zs_W} (h : ∀ q, w.1 q ≤ c) (x : Nat) : (∀ q, (zs_tk S ly w x).1 q ≤ c) ∧ (zs_tk S ly w x).2 ≤ w.2 := by
  unfold zs_tk
  split
  · refine ⟨fun q => ?_, Nat.sub_le _ _⟩
    show (if q = x then ly else w.1 q) ≤ c
    split
    · exact hl
    · exact h q
  · exact ⟨h, Nat.le_refl _⟩
theorem zs_fa_le {S : za_S} {ly c : Nat} (hl : ly ≤ c) : ∀ (L : List Nat) (w : zs_W), (∀ q, w.1 q ≤ c) → (∀ q, (zs_fa S ly L w).1 q ≤ c) ∧ (zs_fa S ly L w).2 ≤ w.2
  | [], w, h => ⟨h, Nat.le_refl _⟩
  | x :: L, w, h => by
    obtain ⟨a, d⟩ := zs_tk_le (S := S) hl h x
    obtain ⟨a2, d2⟩ := zs_fa_le (S := S) hl L (zs_tk S ly w x) a
    exact ⟨a2, Nat.le_trans d2 d⟩
theorem zs_hd_le {S : za_S} {ly c : Nat} (hl : ly ≤ c) (L : List Nat) (w : zs_W) (h : ∀ q, w.1 q ≤ c) : (∀ q, (zs_hd S ly L w).1 q ≤ c) ∧ (zs_hd S ly L w).2 ≤ w.2 := by
  unfold zs_hd
  split
  · exact ⟨h, Nat.le_refl _⟩
  · exact zs_tk_le hl h _
theorem zs_fa_keep {S : za_S} {x : Nat} : ∀ (L : List Nat) (w : zs_W), w.1 x = 1 → (zs_fa S 1 L w).1 x = 1
  | [], w, h => h
  | y :: L, w, h => zs_fa_keep L (zs_tk S 1 w y) (by
      unfold zs_tk
      split
      next q =>
        show (if x = y then 1 else w.1 x) = 1
        split
        · rfl
        · exact h
      next => exact h)
abbrev zm_w0 (S : za_S) (v : Nat) : zs_W := (fun _ => 0, S.1 1 v 0)
def zm_w1 (S : za_S) (v : Nat) : zs_W := zs_fa S 1 (zs_ln S v) (zm_w0 S v)
def zm_w2 (S : za_S) (v : Nat) : zs_W := zs_hd S 2 (zs_ln S v) (zm_w1 S v)
def zm_w3 (S : za_S) (v : Nat) : zs_W := zs_hd S 3 (zs_ln S v) (zm_w2 S v)
def zm_w4 (S : za_S) (v : Nat) : zs_W := zs_fa S 2 (zs_ln S v) (zm_w3 S v)
theorem zm_w5 (S : za_S) (v : Nat) : zs_ch S v = zs_fa S 3 (zs_ln S v) (zm_w4 S v) := rfl
theorem zm_w1_le (S : za_S) (v : Nat) : (∀ q, (zm_w1 S v).1 q ≤ 1) ∧ (zm_w1 S v).2 ≤ S.1 1 v 0 := zs_fa_le (Nat.le_refl 1) _ _ (fun _ => Nat.zero_le _)
theorem zm_w2_le (S : za_S) (v : Nat) : (∀ q, (zm_w2 S v).1 q ≤ 2) ∧ (zm_w2 S v).2 ≤ S.1 1 v 0 := by
  obtain ⟨a, d⟩ := zm_w1_le S v
  obtain ⟨a2, d2⟩ := zs_hd_le (S := S) (Nat.le_refl 2) (zs_ln S v) (zm_w1 S v) (fun q => Nat.le_trans (a q) (by decide))
  exact ⟨a2, Nat.le_trans d2 d⟩
theorem zm_w3_le (S : za_S) (v : Nat) : (∀ q, (zm_w3 S v).1 q ≤ 3) ∧ (zm_w3 S v).2 ≤ S.1 1 v 0 := by
  obtain ⟨a, d⟩ := zm_w2_le S v
  obtain ⟨a2, d2⟩ := zs_hd_le (S := S) (Nat.le_refl 3) (zs_ln S v) (zm_w2 S v) (fun q => Nat.le_trans (a q) (by decide))
  exact ⟨a2, Nat.le_trans d2 d⟩
theorem zm_w4_le (S : za_S) (v : Nat) : (∀ q, (zm_w4 S v).1 q ≤ 3) ∧ (zm_w4 S v).2 ≤ S.1 1 v 0 := by
  obtain ⟨a, d⟩ := zm_w3_le S v
  obtain ⟨a2, d2⟩ := zs_fa_le (S := S) (by decide : 2 ≤ 3) (zs_ln S v) (zm_w3 S v) a
  exact ⟨a2, Nat.le_trans d2 d⟩
theorem zm_w5_le (S : za_S) (v : Nat) : (∀ q, (zs_ch S v).1 q ≤ 3) ∧ (zs_ch S v).2 ≤ S.1 1 v 0 := by
  obtain ⟨a, d⟩ := zm_w4_le S v
  obtain ⟨a2, d2⟩ := zs_fa_le (S := S) (by decide : 3 ≤ 3) (zs_ln S v) (zm_w4 S v) a
  exact ⟨a2, Nat.le_trans d2 d⟩
theorem zm_h1 {S : za_S} {v h : Nat} (e : (zs_ln S v)[0]? = some h) (h0 : (zm_w1 S v).1 h = 0) : S.1 2 h 0 < 1 ∨ S.1 1 v 0 < 100 := by
  unfold zm_w1 at h0
  cases q : zs_ln S v with
  | nil => rw [q] at e; cases e
  | cons y L =>
    rw [q] at e h0
    have hy : y = h := Option.some.inj e
    subst hy
    refine Decidable.byContradiction (fun z => ?_)
    have e1 : (zs_tk S 1 (zm_w0 S v) y).1 y = 1 := by
      unfold zs_tk
      rw [if_pos ⟨rfl, by omega, by show zs_need 1 - zs_need (1 - 1) ≤ S.1 1 v 0; have : zs_need 1 - zs_need (1 - 1) = 100 := (by decide); omega⟩]
      exact if_pos rfl
    have e2 := zs_fa_keep (S := S) L _ e1
    have e3 : (zs_fa S 1 (y :: L) (zm_w0 S v)).1 y = 1 := e2
    omega
theorem zm_hd {S : za_S} {v h ly : Nat} (w : zs_W) (e : (zs_ln S v)[0]? = some h) : zs_hd S ly (zs_ln S v) w = zs_tk S ly w h := by
  cases q : zs_ln S v with
  | nil => rw [q] at e; cases e
  | cons y L =>
    rw [q] at e
    have hy : y = h := Option.some.inj e
    subst hy
    rfl
theorem zm_hd0 {S : za_S} {v ly : Nat} (w : zs_W) (e : (zs_ln S v).length = 0) : zs_hd S ly (zs_ln S v) w = w := by
  cases q : zs_ln S v with
  | nil => rfl
  | cons y L => rw [q] at e; cases e
theorem zm_t2 {S : za_S} {v h : Nat} (e : (zs_ln S v)[0]? = some h) : zs_tm S 2 (zm_w1 S v) h = zm_w2 S v := by
  unfold zm_w2
  rw [zm_hd _ e]
  have a := (zm_w1_le S v).1 h
  have d := (zm_w1_le S v).2
  by_cases q : (zm_w1 S v).1 h = 1
  · exact zs_tm_k q
  · have q0 : (zm_w1 S v).1 h = 0 := by omega
    refine zs_tm_f (by omega) ?_
    rw [q0]
    have := zm_h1 e q0
    have hn : zs_need 2 - zs_need 0 = 400 := by decide
    omega
theorem zm_t3 {S : za_S} {v h : Nat} (e : (zs_ln S v)[0]? = some h) : zs_tm S 3 (zm_w2 S v) h = zm_w3 S v := by
  unfold zm_w3
  rw [zm_hd _ e]
  have a := (zm_w1_le S v).1 h
  have d := (zm_w1_le S v).2
  have e2 : zm_w2 S v = zs_tk S 2 (zm_w1 S v) h := zm_hd _ e
  by_cases q : (zm_w2 S v).1 h = 2
  · exact zs_tm_k q
  · have hn3 : zs_need 3 - zs_need 0 = 1600 := by decide
    have hn4 : zs_need 3 - zs_need 1 = 1500 := by decide
    have hn2 : zs_need 2 - zs_need (2 - 1) = 300 := by decide
    have e3 : zm_w2 S v = zm_w1 S v := by
      rw [e2]
      unfold zs_tk
      split
      next z =>
        exfalso
        apply q
        rw [e2]
        unfold zs_tk
        rw [if_pos z]
        exact if_pos rfl
      next => rfl
    have nz : ¬ ((zm_w1 S v).1 h = 2 - 1 ∧ 2 ≤ S.1 2 h 0 ∧ zs_need 2 - zs_need (2 - 1) ≤ (zm_w1 S v).2) := fun z => q (by
      rw [e2]
      unfold zs_tk
      rw [if_pos z]
      exact if_pos rfl)
    rw [e3]
    refine zs_tm_f (by omega) ?_
    by_cases q1 : (zm_w1 S v).1 h = 1
    · rw [q1]
      omega
    · have q0 : (zm_w1 S v).1 h = 0 := by omega
      rw [q0]
      have := zm_h1 e q0
      omega
theorem zs_us_eq {S : za_S} (h : zs_I S) {v : Nat} (hv : v < S.1 0 0 0) : zs_us S v + (zs_ch S v).2 = S.1 1 v 0 := by
  have hL : ∀ x, x ∈ zs_ln S v → x < 10 := fun x hx => by have := (zs_ln_tg h hv hx).1; have := h.c.1; omega
  have e : zs_bu (zs_ch S v) = S.1 1 v 0 := by
    unfold zs_ch
    rw [zs_fa_bu S (by omega) _ _ hL, zs_fa_bu S (by omega) _ _ hL, zs_hd_bu S (by omega) _ _ hL, zs_hd_bu S (by omega) _ _ hL, zs_fa_bu S (by omega) _ _ hL]
    unfold zs_bu
    show zs_sum (fun p => zs_need 0) 10 + S.1 1 v 0 = _
    rw [show zs_sum (fun _ => zs_need 0) 10 = 0 from rfl]
    omega
  exact e
theorem zs_us_n {S : za_S} {v : Nat} (h : S.2 0 v 0 = none) : zs_us S v = 0 ∧ ∀ p, (zs_ch S v).1 p = 0 := by
  have e : zs_ln S v = [] := by
    unfold zs_ln
    rw [h]
  have e2 : ∀ p, (zs_ch S v).1 p = 0 := fun p => by
    unfold zs_ch
    rw [e]
    rfl
  refine ⟨?_, e2⟩
  unfold zs_us
  rw [show (fun p => zs_need ((zs_ch S v).1 p)) = fun _ => 0 from funext fun p => by rw [e2]; rfl]
  rfl
/-- who is first, but for oneself -/
def zm_f (S : za_S) (v r : Nat) : Option Nat := match S.2 1 v 0 with
  | some q => some q
  | none => if S.2 3 r 0 = some v then none else S.2 3 r 0
theorem zm_f_p {S : za_S} {v r q : Nat} (h : S.2 1 v 0 = some q) : zm_f S v r = some q := by
  unfold zm_f
  rw [h]
theorem zm_f_v {S : za_S} {v r : Nat} (h : S.2 1 v 0 = none) (h2 : S.2 3 r 0 = some v) : zm_f S v r = none := by
  unfold zm_f
  rw [h]
  exact if_pos h2
theorem zm_f_n {S : za_S} {v r : Nat} (h : S.2 1 v 0 = none) (h2 : S.2 3 r 0 ≠ some v) : zm_f S v r = S.2 3 r 0 := by
  unfold zm_f
  rw [h]
  exact if_neg h2
theorem zm_f_1 {S : za_S} {v r x : Nat} (h : zm_f S v r = some x) : zs_first S v r = some x := by
  unfold zm_f at h
  unfold zs_first
  cases e : S.2 1 v 0 with
  | some q => rw [e] at h; exact h
  | none =>
    rw [e] at h
    simp only at h ⊢
    split at h
    · cases h
    · exact h
theorem zm_f_2 {S : za_S} {v r x : Nat} (hx : x ≠ v) (h : zs_first S v r = some x) : zm_f S v r = some x := by
  unfold zs_first at h
  unfold zm_f
  cases e : S.2 1 v 0 with
  | some q => rw [e] at h; exact h
  | none =>
    rw [e] at h
    simp only at h ⊢
    rw [h, if_neg (fun z => hx (Option.some.inj z))]
theorem zm_r0 {S : za_S} {v r : Nat} (hp : ∀ q, S.2 1 v 0 = some q → q ≠ v) : zs_rest S v r 0 = match zm_f S v r with
  | none => []
  | some x => [x] := by
  unfold zs_rest
  cases e : zm_f S v r with
  | some x =>
    rw [zm_f_1 e]
    unfold zs_ap
    have hx : x ≠ v := by
      unfold zm_f at e
      cases e1 : S.2 1 v 0 with
      | some q => rw [e1] at e; cases e; exact hp _ e1
      | none =>
        rw [e1] at e
        simp only at e
        split at e
        · cases e
        next z => exact fun y => z (by rw [e, y])
    simp only
    rw [if_pos hx]
    rfl
  | none =>
    unfold zs_ap
    cases e1 : zs_first S v r with
    | none => rfl
    | some x =>
      simp only
      by_cases hx : x = v
      · rw [if_neg (fun z => z hx)]
      · rw [zm_f_2 hx e1] at e
        cases e
theorem zm_rs {S : za_S} {v r k x : Nat} (h : S.2 2 r k = some x) : zs_rest S v r (k + 1) = if x = v ∨ zm_f S v r = some x then zs_rest S v r k else zs_rest S v r k ++ [x] := by
  show (if S.2 2 r k = zs_first S v r then zs_rest S v r k else zs_ap (S.2 2 r k) v (zs_rest S v r k)) = _
  rw [h]
  by_cases hx : x = v
  · rw [if_pos (Or.inl hx)]
    split
    · rfl
    · unfold zs_ap
      simp only
      rw [if_neg (fun z => z hx)]
  · by_cases q : zm_f S v r = some x
    · rw [if_pos (Or.inr q), if_pos (zm_f_1 q).symm]
    · rw [if_neg (fun z : some x = zs_first S v r => q (zm_f_2 hx z.symm)), if_neg (fun z : x = v ∨ zm_f S v r = some x => z.elim hx q)]
      unfold zs_ap
      simp only
      rw [if_pos hx]
/-- the row of the order holds L -/
def zm_or (Y : za_S) (L : List Nat) : Prop := ∀ j, j < L.length → L[j]? = some (Y.1 1 j 0)
theorem zm_or_n {Y Y2 : za_S} {L : List Nat} (h : zm_or Y L) (e : ∀ j, Y2.1 1 j 0 = Y.1 1 j 0) : zm_or Y2 L := fun j hj => by
  rw [e]
  exact h j hj
theorem zm_or_s {Y : za_S} {L : List Nat} (h : zm_or Y L) (x : Nat) : zm_or (za_N Y 1 L.length 0 x) (L ++ [x]) := fun j hj => by
  rw [List.length_append, List.length_singleton] at hj
  by_cases q : j = L.length
  · subst q
    rw [za_Ns]
    simp
  · rw [List.getElem?_append_left (by omega), h j (by omega), za_N1, if_neg (by omega)]
theorem zm_or_0 (Y : za_S) : zm_or Y [] := fun j hj => absurd hj (Nat.not_lt_zero _)
theorem zm_or_1 (Y : za_S) (x : Nat) : zm_or (za_N Y 1 0 0 x) [x] := zm_or_s (zm_or_0 Y) x
/-- what stays in the model's own rows -/
def zm_fy (Y Y2 : za_S) : Prop := Y2.1 0 0 0 = Y.1 0 0 0 ∧ zs_B Y2
theorem zm_ln {S : za_S} {v r : Nat} (h : S.2 0 v 0 = some r) : zs_rest S v r (S.1 5 r 0) = zs_ln S v := by
  unfold zs_ln
  rw [h]
