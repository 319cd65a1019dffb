
/-! ### what is seen: within the room, within the budget -/
theorem zs_tk_o (S : za_S) (ly : Nat) (w : zs_W) {x u : Nat} (h : u ≠ x) : (zs_tk S ly w x).1 u = w.1 u := by
  unfold zs_tk
  split
  · exact if_neg h
  · rfl
theorem zs_fa_o (S : za_S) (ly : Nat) {u : Nat} : ∀ (L : List Nat) (w : zs_W), u ∉ L → (zs_fa S ly L w).1 u = w.1 u
  | [], w, _ => rfl
  | x :: L, w, h => by
    have h1 : u ≠ x := fun q => h (by rw [q]; exact List.mem_cons_self)
    have h2 : u ∉ L := fun q => h (List.mem_cons_of_mem _ q)
    exact (zs_fa_o S ly L (zs_tk S ly w x) h2).trans (zs_tk_o S ly w h1)
theorem zs_hd_o (S : za_S) (ly : Nat) {u : Nat} (L : List Nat) (w : zs_W) (h : u ∉ L) : (zs_hd S ly L w).1 u = w.1 u := by
  unfold zs_hd
  split
  · rfl
  · exact zs_tk_o S ly w (fun q => h (by rw [q]; exact List.mem_cons_self))
theorem zs_ch_o (S : za_S) (v : Nat) {u : Nat} (h : u ∉ zs_ln S v) : (zs_ch S v).1 u = 0 := by
  unfold zs_ch
  rw [zs_fa_o _ _ _ _ h, zs_fa_o _ _ _ _ h, zs_hd_o _ _ _ _ h, zs_hd_o _ _ _ _ h, zs_fa_o _ _ _ _ h]
theorem zs_ln_tg {S : za_S} (h : zs_I S) {v x : Nat} (hv : v < S.1 0 0 0) (hx : x ∈ zs_ln S v) : x < S.1 0 0 0 ∧ x ≠ v ∧ zs_tg S (some v) (some x) = true := by
  unfold zs_ln at hx
  split at hx
  next => cases hx
  next r e =>
    obtain ⟨-, b⟩ := zs_rest_f h.1 v r (S.1 5 r 0) (Nat.le_refl _)
    obtain ⟨b1, b2⟩ := b x hx
    have key : x < S.1 0 0 0 ∧ S.2 0 x 0 = S.2 0 v 0 := by
      rcases b2 with b2 | ⟨j, b2, b3⟩
      · unfold zs_first at b2
        split at b2
        next y e2 => cases b2; exact ⟨(h.pi hv e2).1, (h.pp hv e2).2⟩
        next => have := h.sp (h.ro hv e) b2; exact ⟨this.1, by rw [this.2, e]⟩
      · obtain ⟨a, c1, c2, c3⟩ := h.oc b2
        cases b3.symm.trans c2
        exact ⟨c1, by rw [c3, e]⟩
    exact ⟨key.1, b1, decide_eq_true ⟨by rw [e]; exact fun q => (by cases q), key.2.symm⟩⟩
theorem zs_ch_tg {S : za_S} (h : zs_I S) {v x : Nat} (hv : v < S.1 0 0 0) (ht : zs_tg S (some v) (some x) = false) : (zs_ch S v).1 x = 0 :=
  zs_ch_o S v (fun q => by rw [(zs_ln_tg h hv q).2.2] at ht; cases ht)
/-- layers' needs and what is left are the budget -/
def zs_bu (w : zs_W) : Nat := zs_sum (fun p => zs_need (w.1 p)) 10 + w.2
theorem zs_need_mo {ly : Nat} (h : ly ≤ 3) : zs_need (ly - 1) ≤ zs_need ly := by
  have : ly = 0 ∨ ly = 1 ∨ ly = 2 ∨ ly = 3 := by omega
  rcases this with rfl | rfl | rfl | rfl <;> decide
theorem zs_tk_bu (S : za_S) {ly : Nat} (hl : ly ≤ 3) (w : zs_W) {x : Nat} (hx : x < 10) : zs_bu (zs_tk S ly w x) = zs_bu w := by
  unfold zs_tk
  split
  next q =>
    obtain ⟨q1, q2, q3⟩ := q
    have e := zs_sum_up (f := fun p => zs_need (w.1 p)) (g := fun p => zs_need (if p = x then ly else w.1 p)) (k := x) (fun j hj => by show zs_need (if j = x then ly else w.1 j) = _; rw [if_neg hj]) 10
    rw [if_pos hx] at e
    have hm := zs_need_mo hl
    have le : ∀ m, x < m → zs_need (w.1 x) ≤ zs_sum (fun p => zs_need (w.1 p)) m := by
      intro m
      induction m with
      | zero => intro h; omega
      | succ m ih =>
        intro h
        show zs_need (w.1 x) ≤ zs_sum _ m + zs_need (w.1 m)
        by_cases z : x = m
        · subst z; omega
        · have := ih (by omega); omega
    have l1 := le 10 hx
    show zs_sum (fun p => zs_need (if p = x then ly else w.1 p)) 10 + (w.2 - (zs_need ly - zs_need (ly - 1))) = zs_sum (fun p => zs_need (w.1 p)) 10 + w.2
    have e2 : zs_sum (fun p => zs_need (if p = x then ly else w.1 p)) 10 = zs_sum (fun p => zs_need (w.1 p)) 10 - zs_need (w.1 x) + zs_need ly := e.trans (by show _ + zs_need (if x = x then ly else w.1 x) = _; rw [if_pos rfl])
    rw [e2]
    rw [q1] at l1 ⊢
    omega
  next => rfl
theorem zs_fa_bu (S : za_S) {ly : Nat} (hl : ly ≤ 3) : ∀ (L : List Nat) (w : zs_W), (∀ x, x ∈ L → x < 10) → zs_bu (zs_fa S ly L w) = zs_bu w
  | [], w, _ => rfl
  | x :: L, w, h => (zs_fa_bu S hl L (zs_tk S ly w x) (fun y hy => h y (List.mem_cons_of_mem _ hy))).trans (zs_tk_bu S hl w (h x List.mem_cons_self))
theorem zs_hd_bu (S : za_S) {ly : Nat} (hl : ly ≤ 3) (L : List Nat) (w : zs_W) (h : ∀ x, x ∈ L → x < 10) : zs_bu (zs_hd S ly L w) = zs_bu w := by
  unfold zs_hd
  split
  · rfl
  · exact zs_tk_bu S hl w (h _ List.mem_cons_self)
theorem zs_us_bu {S : za_S} (h : zs_I S) {v : Nat} (hv : v < S.1 0 0 0) : zs_us S v ≤ S.1 1 v 0 := by
  have hL : ∀ x, x ∈ zs_ln S v → x < 10 := fun x hx => by have := (zs_ln_tg h hv hx).1; have := h.c.1; omega
  have e : zs_bu (zs_ch S v) = S.1 1 v 0 := by
    unfold zs_ch
    rw [zs_fa_bu S (by omega) _ _ hL, zs_fa_bu S (by omega) _ _ hL, zs_hd_bu S (by omega) _ _ hL, zs_hd_bu S (by omega) _ _ hL, zs_fa_bu S (by omega) _ _ hL]
    unfold zs_bu
    have z : zs_sum (fun p => zs_need ((fun _ => 0 : Nat → Nat) p)) 10 = 0 := rfl
    show zs_sum (fun p => zs_need 0) 10 + S.1 1 v 0 = _
    rw [show zs_sum (fun _ => zs_need 0) 10 = 0 from rfl]
    omega
  unfold zs_bu at e
  unfold zs_us
  omega
