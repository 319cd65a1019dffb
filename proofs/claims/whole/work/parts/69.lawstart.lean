/-! ### how all begins -/
def zl_S0 : za_S := (fun _ _ _ => 0, fun c _ _ => if c = 2 then none else some 0)
def zl_Y0 : za_S := (fun _ _ _ => 0, fun _ _ _ => none)
def zl_X0 (q : Nat) : za_S := (fun c i j => if c = 4 ∧ i = 8 ∧ j = 0 then 16 else 0, fun c i j => if c = 6 ∧ i = 8 ∧ j = 0 then some q else none)
theorem zl_I0 : zs_I zl_S0 := by
  refine ⟨⟨fun _ _ _ => by show 0 < _; decide, ⟨Nat.zero_le _, Nat.zero_le _, Nat.zero_le _⟩, fun _ => Nat.zero_le _, fun a r h => absurd h (Nat.not_lt_zero _), fun r j h => absurd h (Nat.not_lt_zero _), fun r j k h => absurd h (Nat.not_lt_zero _), fun r i x h => ?_, fun r x h => absurd h (Nat.not_lt_zero _), fun r x h => absurd h (Nat.not_lt_zero _), fun a q h => absurd h (Nat.not_lt_zero _), fun k h => absurd h (Nat.not_lt_zero _), fun a => ⟨Nat.zero_le _, Nat.zero_le _, Nat.zero_le _, Nat.zero_le _⟩, ⟨Nat.zero_le _, Nat.zero_le _, fun k _ => Nat.zero_le _⟩, fun k j _ => rfl, fun a _ => ⟨rfl, rfl, rfl⟩, fun r _ => ⟨rfl, rfl, fun j => rfl⟩, fun k _ _ => ⟨rfl, rfl⟩⟩, fun a q h => absurd h (Nat.not_lt_zero _)⟩
  cases (show (none : Option Nat) = some x from h)
theorem zl_ua0 : zs_ua zl_S0 10 = 0 := by
  unfold zs_ua
  rw [zs_sum_congr (f := fun v => if v < zl_S0.1 0 0 0 then zs_us zl_S0 v else 0) (g := fun _ => 0) 10 (fun v _ => if_neg (show ¬ v < zl_S0.1 0 0 0 from Nat.not_lt_zero v))]
  rfl
theorem zl_X1 {q c i j : Nat} (h : ¬ (c = 4 ∧ i = 8 ∧ j = 0)) : (zl_X0 q).1 c i j = 0 := by
  show (if c = 4 ∧ i = 8 ∧ j = 0 then 16 else 0) = 0
  exact if_neg h
theorem zl_X2 {q c i j : Nat} (h : ¬ (c = 6 ∧ i = 8 ∧ j = 0)) : (zl_X0 q).2 c i j = none := by
  show (if c = 6 ∧ i = 8 ∧ j = 0 then some q else none) = none
  exact if_neg h
theorem zl_D0 (q : Nat) : zs_D zl_S0 (zl_X0 q) := by
  have h5 : ∀ i, (zl_X0 q).1 5 i 0 = 0 := fun i => zl_X1 (by omega)
  refine ⟨zl_I0, ⟨Nat.zero_le _, Nat.zero_le _, Nat.zero_le _, h5 0, h5 1, h5 2, fun j => ?_, fun j => ?_, fun j => ?_⟩, fun c i j => ?_, ⟨fun v _ h => absurd h (Nat.not_lt_zero _), ?_⟩, fun k hk => ?_, fun a => Nat.zero_le _, Nat.zero_le _⟩
  · exact (zl_X2 (by omega)).trans (if_neg (Nat.not_lt_zero j)).symm
  · exact (zl_X2 (by omega)).trans (if_neg (Nat.not_lt_zero j)).symm
  · exact (zl_X2 (by omega)).trans (if_neg (Nat.not_lt_zero j)).symm
  · show (if c = 4 ∧ i = 8 ∧ j = 0 then 16 else 0) < _
    split <;> decide
  · exact (zl_X1 (by omega)).trans zl_ua0.symm
  · rcases hk with hk | rfl
    · exact absurd hk (Nat.not_lt_zero _)
    · show (if 8 = 8 then 16 else 0) = zl_len 8 0
      decide
theorem zl_60 : zs_6 zl_S0 := fun a => Nat.zero_le _
theorem zl_B0 : zs_B zl_Y0 := fun _ _ _ => by show 0 < _; decide
theorem zl_fn {f : Nat → Int32} {cA : ClassId} {n : Nat} {D : va_G} {cl : List vw_C} {q : Nat} {H : Heap} (h : va_at D cl (q, .inl (cA, n, .inl (fun _ => 0))) H) (e : ∀ j, j < n → f j = 0) : va_at D cl (q, .inl (cA, n, .inl f)) H := by
  refine (show H[q]? = some (vp_cell cA (n, .inl f)) from ?_)
  rw [show H[q]? = some (vp_cell cA (n, .inl (fun _ => 0))) from h]
  exact congrArg some (show arrV cA n (fun _ => .int 0) = arrV cA n (fun j => .int (f j)) from za_arrE (fun j hj => by rw [e j hj]))
/-- kinds that are there at the beginning -/
def zl_kk (κ : Nat) : Prop := κ ≤ 34 ∧ κ ≠ 8 ∧ κ ≠ 9 ∧ κ ≠ 10 ∧ κ ≠ 11
theorem zl_ex {ad : za_Ad} {T Y : za_S} {q : Nat} {ow : Int64} {dw : UInt64} {κ i : Nat} (h : za_x (ad, zl_S0, zl_X0 q, T, Y, ow, dw) κ i) : zl_kk κ := by
  have h34 := za_ex34 h
  refine ⟨h34, ?_, ?_, ?_, ?_⟩ <;> (rintro rfl; exact absurd (show i < 0 from h) (Nat.not_lt_zero _))
def zl_pl : List Nat := [0, 1, 2, 3, 6, 9, 7, 8, 0, 0, 0, 0, 4, 5, 10, 11, 12, 13, 14, 15, 16, 17, 18, 19, 20, 21, 22, 23, 24, 25, 26, 27, 28, 29, 30]
def zl_il : List Nat := [0, 0, 0, 0, 0, 0, 10, 10, 0, 0, 0, 0, 8, 8, 0, 0, 0, 0, 0, 0, 0, 0, 0, 0, 0, 0, 0, 0, 0, 0, 0, 0, 0, 0, 0]
def zl_ck (a b : Nat) : Bool := a == 8 || a == 9 || a == 10 || a == 11 || b == 8 || b == 9 || b == 10 || b == 11 || !(zl_pl.getD a 0 == zl_pl.getD b 0) || a == b
theorem zl_cka : ((List.range 35).all fun a => (List.range 35).all fun b => zl_ck a b) = true := by decide +kernel
theorem zl_inj {κ κ' : Nat} (h1 : zl_kk κ) (h2 : zl_kk κ') (e : zl_pl.getD κ 0 = zl_pl.getD κ' 0) : κ = κ' := by
  have h := List.all_eq_true.mp (List.all_eq_true.mp zl_cka κ (List.mem_range.mpr (by have := h1.1; omega))) κ' (List.mem_range.mpr (by have := h2.1; omega))
  obtain ⟨-, a1, a2, a3, a4⟩ := h1
  obtain ⟨-, b1, b2, b3, b4⟩ := h2
  simp only [zl_ck, Bool.or_eq_true, beq_iff_eq, a1, a2, a3, a4, b1, b2, b3, b4, false_or, e, Bool.not_eq_true', beq_self_eq_true, Bool.true_eq_false] at h
  exact h
def zl_r (E : za_E) (H : Heap) (u : za_T) (ws : va_W) (κ i : Nat) : Prop := ∃ k : Nat, k = zl_pl.getD κ 0 ∧ ∃ x, ws[k]? = some (za_a u κ i, x) ∧ (va_at E.1 vwCl (za_a u κ i, x) H → va_at E.1 vwCl (za_a u κ i, za_cell E u κ i) H) ∧ i = zl_il.getD κ 0
set_option maxHeartbeats 8000000 in
set_option maxRecDepth 100000 in
/-- THE LAW, from its entry -/
theorem whole_start {p : Program} {e : Env} {s : State} {m : MethodId} {below : List Frame} {meth : Method} {c : Code} (l : Launch) (hflags : l.flags = flags0) {b L : Nat} {xs : Nat → Int32} (hL : L ≤ 1536) (C0 : lw_At p s m meth c b L xs) : W p l e room_1 s m #[Value.ref b] below meth c s.heap [] 0 0 (lw_Z below #[Value.ref b] s) (entryFrame m ([Value.ref b] : List Value).toArray 9) := by
  have C1 := C0
  obtain ⟨hx, hb, hr, hml, hown, hts0, hX, hbl, hlocks, hgv⟩ := C0
  have hl0 : l.stackTraces = false := by unfold Launch.stackTraces; rw [hflags]; decide
  have hts : ∀ w ∈ wsL_law, w.before #[Value.ref b] s = true := fun w h => hts0 w (wsL_law_in w h)
  obtain ⟨E, hK⟩ := zl_K hts0
  have hZ := zl_Z hts0 hgv
  obtain ⟨ao2, ao4, ao3⟩ := zl_AO hts0
  have hN : zk_N [RX2, RX4, RX3] s := ⟨hZ.2.2.2.2.1, List.forall_mem_cons.mpr ⟨ao2, List.forall_mem_cons.mpr ⟨ao4, List.forall_mem_cons.mpr ⟨ao3, fun _ h => absurd h List.not_mem_nil⟩⟩⟩⟩
  have hA : ∀ q : Nat, s.heap.size ≤ q → za_A s.heap.size q := fun _ h => h
  have hbA : ¬ za_A s.heap.size b := Nat.not_le.mpr hbl
  have hS : va_S (za_A s.heap.size) s.heap s.heap [] := va_S.rf
  have hP : va_P E.1 vwCl [] s.heap := fun k q h => by simp at h
  have hD : va_D (za_A s.heap.size) [] := ⟨fun i j p q h => by simp at h, fun k q h => by simp at h⟩
  have hl := lv_entry ([.ref b]) (n := 9) (Nat.le_of_ble_eq_true rfl)
  rw [lg_entry_eq]
  generalize (lg_sl ([.ref b]) ++ List.replicate (9 - (lg_sl ([.ref b])).length) Slot.unset).toArray = ls at hl ⊢
  have hl : lv_has ls 9 [(0, .ref b)] := hl
  refine va_new (ci := 8) (fs := [.null, .null, .null, .null, .null, .int 0, .int 0, .int 0, .int 0, .long 0, .long 0]) (C := RX6) (T := TX6) (N := 11) hx hb hts0 inX6 tyX6 tyX6_ok hown (hts0 _ (List.mem_append_right _ (List.mem_of_getElem? (i := 23) (by decide +kernel)))) (hts0 _ (List.mem_append_right _ (List.mem_of_getElem? (i := 24) (by decide +kernel)))) (hts0 _ (List.mem_append_right _ (List.mem_of_getElem? (i := 1) (by decide +kernel)))) hK hP hD hS hA rfl (fun j hj => by rcases (show j = 0 ∨ j = 1 ∨ j = 2 ∨ j = 3 ∨ j = 4 ∨ j = 5 ∨ j = 6 ∨ j = 7 ∨ j = 8 ∨ j = 9 ∨ j = 10 by omega) with rfl | rfl | rfl | rfl | rfl | rfl | rfl | rfl | rfl | rfl | rfl <;> rfl) (by show _ ≤ 603072; omega) (by show _ ≤ 7207018; omega) dL_law_0 (fun q0v H hP hD hS => ?_)
  have hP : va_P E.1 vwCl [(q0v, .inr (8, [.null, .null, .null, .null, .null, .int 0, .int 0, .int 0, .int 0, .long 0, .long 0]))] H := hP
  have hD : va_D (za_A s.heap.size) [(q0v, .inr (8, [.null, .null, .null, .null, .null, .int 0, .int 0, .int 0, .int 0, .long 0, .long 0]))] := hD
  refine lv_dup hx hb dL_law_3 rfl ?_
  have hPc := hP.sub (ws' := [(q0v, .inr (8, [.null, .null, .null, .null, .null, .int 0, .int 0, .int 0, .int 0, .long 0, .long 0]))]) [0] rfl
  have hDc := hD.sub (ws' := [(q0v, .inr (8, [.null, .null, .null, .null, .null, .int 0, .int 0, .int 0, .int 0, .long 0, .long 0]))]) [0] (by decide) rfl
  have hFc := va_free (wc := [(q0v, .inr (8, [.null, .null, .null, .null, .null, .int 0, .int 0, .int 0, .int 0, .long 0, .long 0]))]) hD hS hA [0] rfl
  refine va_callv (va_runI (As := []) (rest := [.ref q0v]) ⟨hx, hb, hml, hown, hts⟩ (k_X6_init l (E := E) q0v H.size) (cwI 0 hts gL_law_X6_init rfl rfl rfl (hts0 _ (List.mem_append_right _ (List.mem_of_getElem? (i := 1) (by decide +kernel)))) (hts0 _ (List.mem_append_right _ (List.mem_of_getElem? (i := 25) (by decide +kernel)))) (hts0 _ (List.mem_append_right _ (List.mem_of_getElem? (i := 26) (by decide +kernel)))) rfl (by decide +kernel) ⟨Nat.le_of_ble_eq_true rfl, Nat.le_of_ble_eq_true rfl⟩) ⟨zk_blind, fun U hU hW => ⟨rfl, by rw [hU], by rw [hU]; exact hPc, va_K.moved hW.alike hK, hN.warm hW (by simp), hDc.weaken (fun _ _ _ _ => trivial)⟩⟩ rfl rfl hl.1 rfl (lv_room (Nat.le_of_ble_eq_true rfl)) dL_law_4 ⟨by show _ ≤ 603072; omega, by show _ ≤ 7207018; omega⟩) hS (fun q _ h => hFc q h) hFc (fun u t H1 locs ht hvm hw hB hz1 hk1 hS => ?_)
  obtain ⟨q7, q16, q25, q32, q32_0, q46, q46_0, q46_1, q46_2, hP1, hD1⟩ := hB
  rw [ht] at hP1
  obtain ⟨hP, hD⟩ := va_join (wr := []) (w1 := [(q0v, .inr (8, [.ref q7, .ref q16, .ref q25, .ref q32, .ref q46, .int 0, .int 0, .int 0, .int 0, .long 0, .long 0])), (q7, .inl (E.2 3, 10, .inr (.inr (.inr (.inr (fun _ => none)))))), (q16, .inl (E.2 5, 6, .inr (.inr (.inr (.inr (fun _ => none)))))), (q25, .inl (E.2 4, 8, .inr (.inr (.inr (.inr (fun _ => none)))))), (q32, .inr (7, [.int (nI 12000), .ref q32_0, .int 0])), (q32_0, .inl (E.2 0, 16, .inl (fun _ => 0))), (q46, .inr (2, [.ref q46_0, .ref q46_2, .int 0, .int 0])), (q46_0, .inr (3, [.ref q46_1])), (q46_1, .inl (E.2 0, 10, .inl (fun _ => 0))), (q46_2, .inl (E.2 3, 10, .inr (.inr (.inr (.inr (fun _ => none))))))]) hP hD [0] [] rfl rfl (by decide) (by decide) hk1 hFc hP1 hD1
  generalize H1 = H at hP hS ⊢
  have hP : va_P E.1 vwCl [(q0v, .inr (8, [.ref q7, .ref q16, .ref q25, .ref q32, .ref q46, .int 0, .int 0, .int 0, .int 0, .long 0, .long 0])), (q7, .inl (E.2 3, 10, .inr (.inr (.inr (.inr (fun _ => none)))))), (q16, .inl (E.2 5, 6, .inr (.inr (.inr (.inr (fun _ => none)))))), (q25, .inl (E.2 4, 8, .inr (.inr (.inr (.inr (fun _ => none)))))), (q32, .inr (7, [.int (nI 12000), .ref q32_0, .int 0])), (q32_0, .inl (E.2 0, 16, .inl (fun _ => 0))), (q46, .inr (2, [.ref q46_0, .ref q46_2, .int 0, .int 0])), (q46_0, .inr (3, [.ref q46_1])), (q46_1, .inl (E.2 0, 10, .inl (fun _ => 0))), (q46_2, .inl (E.2 3, 10, .inr (.inr (.inr (.inr (fun _ => none))))))] H := hP
  have hD : va_D (za_A s.heap.size) [(q0v, .inr (8, [.ref q7, .ref q16, .ref q25, .ref q32, .ref q46, .int 0, .int 0, .int 0, .int 0, .long 0, .long 0])), (q7, .inl (E.2 3, 10, .inr (.inr (.inr (.inr (fun _ => none)))))), (q16, .inl (E.2 5, 6, .inr (.inr (.inr (.inr (fun _ => none)))))), (q25, .inl (E.2 4, 8, .inr (.inr (.inr (.inr (fun _ => none)))))), (q32, .inr (7, [.int (nI 12000), .ref q32_0, .int 0])), (q32_0, .inl (E.2 0, 16, .inl (fun _ => 0))), (q46, .inr (2, [.ref q46_0, .ref q46_2, .int 0, .int 0])), (q46_0, .inr (3, [.ref q46_1])), (q46_1, .inl (E.2 0, 10, .inl (fun _ => 0))), (q46_2, .inl (E.2 3, 10, .inr (.inr (.inr (.inr (fun _ => none))))))] := hD
  refine lv_astore_n (lv' := [(1, .ref q0v), (0, .ref b)]) hx hb dL_law_7 rfl hl (by decide) rfl (fun ls hl => ?_)
  refine va_new (ci := 9) (fs := [.int 0, .int 0, .null, .null, .null, .null, .null, .null, .int 0, .null, .null, .null, .null, .null, .int 0, .long 0, .int 0, .null, .int 0, .null, .null, .null, .null, .null, .null]) (C := RX7) (T := TX7) (N := 25) hx hb hts0 inX7 tyX7 tyX7_ok hown (hts0 _ (List.mem_append_right _ (List.mem_of_getElem? (i := 825) (by decide +kernel)))) (hts0 _ (List.mem_append_right _ (List.mem_of_getElem? (i := 826) (by decide +kernel)))) (hts0 _ (List.mem_append_right _ (List.mem_of_getElem? (i := 5) (by decide +kernel)))) hK hP hD hS hA rfl (fun j hj => by rcases (show j = 0 ∨ j = 1 ∨ j = 2 ∨ j = 3 ∨ j = 4 ∨ j = 5 ∨ j = 6 ∨ j = 7 ∨ j = 8 ∨ j = 9 ∨ j = 10 ∨ j = 11 ∨ j = 12 ∨ j = 13 ∨ j = 14 ∨ j = 15 ∨ j = 16 ∨ j = 17 ∨ j = 18 ∨ j = 19 ∨ j = 20 ∨ j = 21 ∨ j = 22 ∨ j = 23 ∨ j = 24 by omega) with rfl | rfl | rfl | rfl | rfl | rfl | rfl | rfl | rfl | rfl | rfl | rfl | rfl | rfl | rfl | rfl | rfl | rfl | rfl | rfl | rfl | rfl | rfl | rfl | rfl <;> rfl) (by show _ ≤ 603072; omega) (by show _ ≤ 7207018; omega) dL_law_8 (fun q1v H hP hD hS => ?_)
  have hP : va_P E.1 vwCl [(q0v, .inr (8, [.ref q7, .ref q16, .ref q25, .ref q32, .ref q46, .int 0, .int 0, .int 0, .int 0, .long 0, .long 0])), (q7, .inl (E.2 3, 10, .inr (.inr (.inr (.inr (fun _ => none)))))), (q16, .inl (E.2 5, 6, .inr (.inr (.inr (.inr (fun _ => none)))))), (q25, .inl (E.2 4, 8, .inr (.inr (.inr (.inr (fun _ => none)))))), (q32, .inr (7, [.int (nI 12000), .ref q32_0, .int 0])), (q32_0, .inl (E.2 0, 16, .inl (fun _ => 0))), (q46, .inr (2, [.ref q46_0, .ref q46_2, .int 0, .int 0])), (q46_0, .inr (3, [.ref q46_1])), (q46_1, .inl (E.2 0, 10, .inl (fun _ => 0))), (q46_2, .inl (E.2 3, 10, .inr (.inr (.inr (.inr (fun _ => none)))))), (q1v, .inr (9, [.int 0, .int 0, .null, .null, .null, .null, .null, .null, .int 0, .null, .null, .null, .null, .null, .int 0, .long 0, .int 0, .null, .int 0, .null, .null, .null, .null, .null, .null]))] H := hP
  have hD : va_D (za_A s.heap.size) [(q0v, .inr (8, [.ref q7, .ref q16, .ref q25, .ref q32, .ref q46, .int 0, .int 0, .int 0, .int 0, .long 0, .long 0])), (q7, .inl (E.2 3, 10, .inr (.inr (.inr (.inr (fun _ => none)))))), (q16, .inl (E.2 5, 6, .inr (.inr (.inr (.inr (fun _ => none)))))), (q25, .inl (E.2 4, 8, .inr (.inr (.inr (.inr (fun _ => none)))))), (q32, .inr (7, [.int (nI 12000), .ref q32_0, .int 0])), (q32_0, .inl (E.2 0, 16, .inl (fun _ => 0))), (q46, .inr (2, [.ref q46_0, .ref q46_2, .int 0, .int 0])), (q46_0, .inr (3, [.ref q46_1])), (q46_1, .inl (E.2 0, 10, .inl (fun _ => 0))), (q46_2, .inl (E.2 3, 10, .inr (.inr (.inr (.inr (fun _ => none)))))), (q1v, .inr (9, [.int 0, .int 0, .null, .null, .null, .null, .null, .null, .int 0, .null, .null, .null, .null, .null, .int 0, .long 0, .int 0, .null, .int 0, .null, .null, .null, .null, .null, .null]))] := hD
  refine lv_dup hx hb dL_law_11 rfl ?_
  have hPc := hP.sub (ws' := [(q1v, .inr (9, [.int 0, .int 0, .null, .null, .null, .null, .null, .null, .int 0, .null, .null, .null, .null, .null, .int 0, .long 0, .int 0, .null, .int 0, .null, .null, .null, .null, .null, .null]))]) [10] rfl
  have hDc := hD.sub (ws' := [(q1v, .inr (9, [.int 0, .int 0, .null, .null, .null, .null, .null, .null, .int 0, .null, .null, .null, .null, .null, .int 0, .long 0, .int 0, .null, .int 0, .null, .null, .null, .null, .null, .null]))]) [10] (by decide) rfl
  have hFc := va_free (wc := [(q1v, .inr (9, [.int 0, .int 0, .null, .null, .null, .null, .null, .null, .int 0, .null, .null, .null, .null, .null, .int 0, .long 0, .int 0, .null, .int 0, .null, .null, .null, .null, .null, .null]))]) hD hS hA [10] rfl
  refine va_callv (va_runI (As := []) (rest := [.ref q1v]) ⟨hx, hb, hml, hown, hts⟩ (k_X7_init l (E := E) q1v H.size) (cwI 0 hts gL_law_X7_init rfl rfl rfl (hts0 _ (List.mem_append_right _ (List.mem_of_getElem? (i := 5) (by decide +kernel)))) (hts0 _ (List.mem_append_right _ (List.mem_of_getElem? (i := 827) (by decide +kernel)))) (hts0 _ (List.mem_append_right _ (List.mem_of_getElem? (i := 828) (by decide +kernel)))) rfl (by decide +kernel) ⟨Nat.le_of_ble_eq_true rfl, Nat.le_of_ble_eq_true rfl⟩) ⟨zk_blind, fun U hU hW => ⟨rfl, by rw [hU], by rw [hU]; exact hPc, va_K.moved hW.alike hK, hN.warm hW (by simp), hDc.weaken (fun _ _ _ _ => trivial)⟩⟩ rfl rfl hl.1 rfl (lv_room (Nat.le_of_ble_eq_true rfl)) dL_law_12 ⟨by show _ ≤ 603072; omega, by show _ ≤ 7207018; omega⟩) hS (fun q _ h => hFc q h) hFc (fun u t H1 locs ht hvm hw hB hz1 hk1 hS => ?_)
  obtain ⟨mq7, mq15, mq23, mq31, mq39, mq47, mq55, mq63, mq71, mq79, mq87, mq96, mq104, mq112, mq120, mq129, mq137, mq145, hP1, hD1⟩ := hB
  rw [ht] at hP1
  obtain ⟨hP, hD⟩ := va_join (wr := [(q0v, .inr (8, [.ref q7, .ref q16, .ref q25, .ref q32, .ref q46, .int 0, .int 0, .int 0, .int 0, .long 0, .long 0])), (q7, .inl (E.2 3, 10, .inr (.inr (.inr (.inr (fun _ => none)))))), (q16, .inl (E.2 5, 6, .inr (.inr (.inr (.inr (fun _ => none)))))), (q25, .inl (E.2 4, 8, .inr (.inr (.inr (.inr (fun _ => none)))))), (q32, .inr (7, [.int (nI 12000), .ref q32_0, .int 0])), (q32_0, .inl (E.2 0, 16, .inl (fun _ => 0))), (q46, .inr (2, [.ref q46_0, .ref q46_2, .int 0, .int 0])), (q46_0, .inr (3, [.ref q46_1])), (q46_1, .inl (E.2 0, 10, .inl (fun _ => 0))), (q46_2, .inl (E.2 3, 10, .inr (.inr (.inr (.inr (fun _ => none))))))]) (w1 := [(q1v, .inr (9, [.int 0, .int 0, .ref mq7, .ref mq15, .ref mq23, .ref mq31, .ref mq39, .ref mq47, .int 0, .ref mq55, .ref mq63, .ref mq71, .ref mq79, .ref mq87, .int 0, .long 0, .int 0, .ref mq96, .int 0, .ref mq104, .ref mq112, .ref mq120, .ref mq129, .ref mq137, .ref mq145])), (mq7, .inl (E.2 0, 10, .inl (fun _ => 0))), (mq15, .inl (E.2 0, 10, .inl (fun _ => 0))), (mq23, .inl (E.2 0, 10, .inl (fun _ => 0))), (mq31, .inl (E.2 0, 10, .inl (fun _ => 0))), (mq39, .inl (E.2 0, 10, .inl (fun _ => 0))), (mq47, .inl (E.2 1, 10, .inr (.inl (fun _ => 0)))), (mq55, .inl (E.2 0, 6, .inl (fun _ => 0))), (mq63, .inl (E.2 0, 60, .inl (fun _ => 0))), (mq71, .inl (E.2 0, 6, .inl (fun _ => 0))), (mq79, .inl (E.2 0, 6, .inl (fun _ => 0))), (mq87, .inl (E.2 0, 6, .inl (fun _ => 0))), (mq96, .inl (E.2 0, 12000, .inl (fun _ => 0))), (mq104, .inl (E.2 0, 8, .inl (fun _ => 0))), (mq112, .inl (E.2 2, 8, .inl (fun _ => 0))), (mq120, .inl (E.2 0, 8, .inl (fun _ => 0))), (mq129, .inl (E.2 0, 16000, .inl (fun _ => 0))), (mq137, .inl (E.2 0, 10, .inl (fun _ => 0))), (mq145, .inl (E.2 0, 10, .inl (fun _ => 0)))]) hP hD [10] [0, 1, 2, 3, 4, 5, 6, 7, 8, 9] rfl rfl (by decide) (by decide) hk1 hFc hP1 hD1
  generalize H1 = H at hP hS ⊢
  have hP : va_P E.1 vwCl [(q0v, .inr (8, [.ref q7, .ref q16, .ref q25, .ref q32, .ref q46, .int 0, .int 0, .int 0, .int 0, .long 0, .long 0])), (q7, .inl (E.2 3, 10, .inr (.inr (.inr (.inr (fun _ => none)))))), (q16, .inl (E.2 5, 6, .inr (.inr (.inr (.inr (fun _ => none)))))), (q25, .inl (E.2 4, 8, .inr (.inr (.inr (.inr (fun _ => none)))))), (q32, .inr (7, [.int (nI 12000), .ref q32_0, .int 0])), (q32_0, .inl (E.2 0, 16, .inl (fun _ => 0))), (q46, .inr (2, [.ref q46_0, .ref q46_2, .int 0, .int 0])), (q46_0, .inr (3, [.ref q46_1])), (q46_1, .inl (E.2 0, 10, .inl (fun _ => 0))), (q46_2, .inl (E.2 3, 10, .inr (.inr (.inr (.inr (fun _ => none)))))), (q1v, .inr (9, [.int 0, .int 0, .ref mq7, .ref mq15, .ref mq23, .ref mq31, .ref mq39, .ref mq47, .int 0, .ref mq55, .ref mq63, .ref mq71, .ref mq79, .ref mq87, .int 0, .long 0, .int 0, .ref mq96, .int 0, .ref mq104, .ref mq112, .ref mq120, .ref mq129, .ref mq137, .ref mq145])), (mq7, .inl (E.2 0, 10, .inl (fun _ => 0))), (mq15, .inl (E.2 0, 10, .inl (fun _ => 0))), (mq23, .inl (E.2 0, 10, .inl (fun _ => 0))), (mq31, .inl (E.2 0, 10, .inl (fun _ => 0))), (mq39, .inl (E.2 0, 10, .inl (fun _ => 0))), (mq47, .inl (E.2 1, 10, .inr (.inl (fun _ => 0)))), (mq55, .inl (E.2 0, 6, .inl (fun _ => 0))), (mq63, .inl (E.2 0, 60, .inl (fun _ => 0))), (mq71, .inl (E.2 0, 6, .inl (fun _ => 0))), (mq79, .inl (E.2 0, 6, .inl (fun _ => 0))), (mq87, .inl (E.2 0, 6, .inl (fun _ => 0))), (mq96, .inl (E.2 0, 12000, .inl (fun _ => 0))), (mq104, .inl (E.2 0, 8, .inl (fun _ => 0))), (mq112, .inl (E.2 2, 8, .inl (fun _ => 0))), (mq120, .inl (E.2 0, 8, .inl (fun _ => 0))), (mq129, .inl (E.2 0, 16000, .inl (fun _ => 0))), (mq137, .inl (E.2 0, 10, .inl (fun _ => 0))), (mq145, .inl (E.2 0, 10, .inl (fun _ => 0)))] H := hP
  have hD : va_D (za_A s.heap.size) [(q0v, .inr (8, [.ref q7, .ref q16, .ref q25, .ref q32, .ref q46, .int 0, .int 0, .int 0, .int 0, .long 0, .long 0])), (q7, .inl (E.2 3, 10, .inr (.inr (.inr (.inr (fun _ => none)))))), (q16, .inl (E.2 5, 6, .inr (.inr (.inr (.inr (fun _ => none)))))), (q25, .inl (E.2 4, 8, .inr (.inr (.inr (.inr (fun _ => none)))))), (q32, .inr (7, [.int (nI 12000), .ref q32_0, .int 0])), (q32_0, .inl (E.2 0, 16, .inl (fun _ => 0))), (q46, .inr (2, [.ref q46_0, .ref q46_2, .int 0, .int 0])), (q46_0, .inr (3, [.ref q46_1])), (q46_1, .inl (E.2 0, 10, .inl (fun _ => 0))), (q46_2, .inl (E.2 3, 10, .inr (.inr (.inr (.inr (fun _ => none)))))), (q1v, .inr (9, [.int 0, .int 0, .ref mq7, .ref mq15, .ref mq23, .ref mq31, .ref mq39, .ref mq47, .int 0, .ref mq55, .ref mq63, .ref mq71, .ref mq79, .ref mq87, .int 0, .long 0, .int 0, .ref mq96, .int 0, .ref mq104, .ref mq112, .ref mq120, .ref mq129, .ref mq137, .ref mq145])), (mq7, .inl (E.2 0, 10, .inl (fun _ => 0))), (mq15, .inl (E.2 0, 10, .inl (fun _ => 0))), (mq23, .inl (E.2 0, 10, .inl (fun _ => 0))), (mq31, .inl (E.2 0, 10, .inl (fun _ => 0))), (mq39, .inl (E.2 0, 10, .inl (fun _ => 0))), (mq47, .inl (E.2 1, 10, .inr (.inl (fun _ => 0)))), (mq55, .inl (E.2 0, 6, .inl (fun _ => 0))), (mq63, .inl (E.2 0, 60, .inl (fun _ => 0))), (mq71, .inl (E.2 0, 6, .inl (fun _ => 0))), (mq79, .inl (E.2 0, 6, .inl (fun _ => 0))), (mq87, .inl (E.2 0, 6, .inl (fun _ => 0))), (mq96, .inl (E.2 0, 12000, .inl (fun _ => 0))), (mq104, .inl (E.2 0, 8, .inl (fun _ => 0))), (mq112, .inl (E.2 2, 8, .inl (fun _ => 0))), (mq120, .inl (E.2 0, 8, .inl (fun _ => 0))), (mq129, .inl (E.2 0, 16000, .inl (fun _ => 0))), (mq137, .inl (E.2 0, 10, .inl (fun _ => 0))), (mq145, .inl (E.2 0, 10, .inl (fun _ => 0)))] := hD
  refine lv_astore_n (lv' := [(2, .ref q1v), (1, .ref q0v), (0, .ref b)]) hx hb dL_law_15 rfl hl (by decide) rfl (fun ls hl => ?_)
  refine zb_iconst (n := 1) hx hb dL_law_16 (by decide) ?_
  refine va_newa (atype := .long) (N' := 1) (a0 := (1, .inr (.inl (fun _ => 0)))) hx hb (hts0 _ (List.mem_append_right _ (List.mem_of_getElem? (i := 907) (by decide +kernel)))) rfl hK hP hD hS hA (fun _ => rfl) (nI_pos (by decide)) (nI_clamp (by decide)) (Nat.le_of_ble_eq_true rfl) (by show _ ≤ 603072; omega) (by show _ ≤ 7207018; omega) dL_law_17 (fun q33 cA H hK9 hP hD hS => ?_)
  have cE : cA = E.2 1 := Option.some.inj ((hK9.2 7 _ rfl).2.symm.trans (hK.2 1 _ rfl).2)
  subst cE
  have hP : va_P E.1 vwCl [(q0v, .inr (8, [.ref q7, .ref q16, .ref q25, .ref q32, .ref q46, .int 0, .int 0, .int 0, .int 0, .long 0, .long 0])), (q7, .inl (E.2 3, 10, .inr (.inr (.inr (.inr (fun _ => none)))))), (q16, .inl (E.2 5, 6, .inr (.inr (.inr (.inr (fun _ => none)))))), (q25, .inl (E.2 4, 8, .inr (.inr (.inr (.inr (fun _ => none)))))), (q32, .inr (7, [.int (nI 12000), .ref q32_0, .int 0])), (q32_0, .inl (E.2 0, 16, .inl (fun _ => 0))), (q46, .inr (2, [.ref q46_0, .ref q46_2, .int 0, .int 0])), (q46_0, .inr (3, [.ref q46_1])), (q46_1, .inl (E.2 0, 10, .inl (fun _ => 0))), (q46_2, .inl (E.2 3, 10, .inr (.inr (.inr (.inr (fun _ => none)))))), (q1v, .inr (9, [.int 0, .int 0, .ref mq7, .ref mq15, .ref mq23, .ref mq31, .ref mq39, .ref mq47, .int 0, .ref mq55, .ref mq63, .ref mq71, .ref mq79, .ref mq87, .int 0, .long 0, .int 0, .ref mq96, .int 0, .ref mq104, .ref mq112, .ref mq120, .ref mq129, .ref mq137, .ref mq145])), (mq7, .inl (E.2 0, 10, .inl (fun _ => 0))), (mq15, .inl (E.2 0, 10, .inl (fun _ => 0))), (mq23, .inl (E.2 0, 10, .inl (fun _ => 0))), (mq31, .inl (E.2 0, 10, .inl (fun _ => 0))), (mq39, .inl (E.2 0, 10, .inl (fun _ => 0))), (mq47, .inl (E.2 1, 10, .inr (.inl (fun _ => 0)))), (mq55, .inl (E.2 0, 6, .inl (fun _ => 0))), (mq63, .inl (E.2 0, 60, .inl (fun _ => 0))), (mq71, .inl (E.2 0, 6, .inl (fun _ => 0))), (mq79, .inl (E.2 0, 6, .inl (fun _ => 0))), (mq87, .inl (E.2 0, 6, .inl (fun _ => 0))), (mq96, .inl (E.2 0, 12000, .inl (fun _ => 0))), (mq104, .inl (E.2 0, 8, .inl (fun _ => 0))), (mq112, .inl (E.2 2, 8, .inl (fun _ => 0))), (mq120, .inl (E.2 0, 8, .inl (fun _ => 0))), (mq129, .inl (E.2 0, 16000, .inl (fun _ => 0))), (mq137, .inl (E.2 0, 10, .inl (fun _ => 0))), (mq145, .inl (E.2 0, 10, .inl (fun _ => 0))), (q33, .inl (E.2 1, 1, .inr (.inl (fun _ => 0))))] H := hP
  have hD : va_D (za_A s.heap.size) [(q0v, .inr (8, [.ref q7, .ref q16, .ref q25, .ref q32, .ref q46, .int 0, .int 0, .int 0, .int 0, .long 0, .long 0])), (q7, .inl (E.2 3, 10, .inr (.inr (.inr (.inr (fun _ => none)))))), (q16, .inl (E.2 5, 6, .inr (.inr (.inr (.inr (fun _ => none)))))), (q25, .inl (E.2 4, 8, .inr (.inr (.inr (.inr (fun _ => none)))))), (q32, .inr (7, [.int (nI 12000), .ref q32_0, .int 0])), (q32_0, .inl (E.2 0, 16, .inl (fun _ => 0))), (q46, .inr (2, [.ref q46_0, .ref q46_2, .int 0, .int 0])), (q46_0, .inr (3, [.ref q46_1])), (q46_1, .inl (E.2 0, 10, .inl (fun _ => 0))), (q46_2, .inl (E.2 3, 10, .inr (.inr (.inr (.inr (fun _ => none)))))), (q1v, .inr (9, [.int 0, .int 0, .ref mq7, .ref mq15, .ref mq23, .ref mq31, .ref mq39, .ref mq47, .int 0, .ref mq55, .ref mq63, .ref mq71, .ref mq79, .ref mq87, .int 0, .long 0, .int 0, .ref mq96, .int 0, .ref mq104, .ref mq112, .ref mq120, .ref mq129, .ref mq137, .ref mq145])), (mq7, .inl (E.2 0, 10, .inl (fun _ => 0))), (mq15, .inl (E.2 0, 10, .inl (fun _ => 0))), (mq23, .inl (E.2 0, 10, .inl (fun _ => 0))), (mq31, .inl (E.2 0, 10, .inl (fun _ => 0))), (mq39, .inl (E.2 0, 10, .inl (fun _ => 0))), (mq47, .inl (E.2 1, 10, .inr (.inl (fun _ => 0)))), (mq55, .inl (E.2 0, 6, .inl (fun _ => 0))), (mq63, .inl (E.2 0, 60, .inl (fun _ => 0))), (mq71, .inl (E.2 0, 6, .inl (fun _ => 0))), (mq79, .inl (E.2 0, 6, .inl (fun _ => 0))), (mq87, .inl (E.2 0, 6, .inl (fun _ => 0))), (mq96, .inl (E.2 0, 12000, .inl (fun _ => 0))), (mq104, .inl (E.2 0, 8, .inl (fun _ => 0))), (mq112, .inl (E.2 2, 8, .inl (fun _ => 0))), (mq120, .inl (E.2 0, 8, .inl (fun _ => 0))), (mq129, .inl (E.2 0, 16000, .inl (fun _ => 0))), (mq137, .inl (E.2 0, 10, .inl (fun _ => 0))), (mq145, .inl (E.2 0, 10, .inl (fun _ => 0))), (q33, .inl (E.2 1, 1, .inr (.inl (fun _ => 0))))] := hD
  refine lv_astore_n (lv' := [(3, .ref q33), (2, .ref q1v), (1, .ref q0v), (0, .ref b)]) hx hb dL_law_19 rfl hl (by decide) rfl (fun ls hl => ?_)
  refine zb_iconst (n := 1) hx hb dL_law_20 (by decide) ?_
  refine va_newa (atype := .double) (N' := 1) (a0 := (1, .inr (.inr (.inr (.inl (fun _ => 0)))))) hx hb (hts0 _ (List.mem_append_right _ (List.mem_of_getElem? (i := 1124) (by decide +kernel)))) rfl hK hP hD hS hA (fun _ => rfl) (nI_pos (by decide)) (nI_clamp (by decide)) (Nat.le_of_ble_eq_true rfl) (by show _ ≤ 603072; omega) (by show _ ≤ 7207018; omega) dL_law_21 (fun q34 cA H hK9 hP hD hS => ?_)
  have cE : cA = E.2 6 := Option.some.inj ((hK9.2 7 _ rfl).2.symm.trans (hK.2 6 _ rfl).2)
  subst cE
  have hP : va_P E.1 vwCl [(q0v, .inr (8, [.ref q7, .ref q16, .ref q25, .ref q32, .ref q46, .int 0, .int 0, .int 0, .int 0, .long 0, .long 0])), (q7, .inl (E.2 3, 10, .inr (.inr (.inr (.inr (fun _ => none)))))), (q16, .inl (E.2 5, 6, .inr (.inr (.inr (.inr (fun _ => none)))))), (q25, .inl (E.2 4, 8, .inr (.inr (.inr (.inr (fun _ => none)))))), (q32, .inr (7, [.int (nI 12000), .ref q32_0, .int 0])), (q32_0, .inl (E.2 0, 16, .inl (fun _ => 0))), (q46, .inr (2, [.ref q46_0, .ref q46_2, .int 0, .int 0])), (q46_0, .inr (3, [.ref q46_1])), (q46_1, .inl (E.2 0, 10, .inl (fun _ => 0))), (q46_2, .inl (E.2 3, 10, .inr (.inr (.inr (.inr (fun _ => none)))))), (q1v, .inr (9, [.int 0, .int 0, .ref mq7, .ref mq15, .ref mq23, .ref mq31, .ref mq39, .ref mq47, .int 0, .ref mq55, .ref mq63, .ref mq71, .ref mq79, .ref mq87, .int 0, .long 0, .int 0, .ref mq96, .int 0, .ref mq104, .ref mq112, .ref mq120, .ref mq129, .ref mq137, .ref mq145])), (mq7, .inl (E.2 0, 10, .inl (fun _ => 0))), (mq15, .inl (E.2 0, 10, .inl (fun _ => 0))), (mq23, .inl (E.2 0, 10, .inl (fun _ => 0))), (mq31, .inl (E.2 0, 10, .inl (fun _ => 0))), (mq39, .inl (E.2 0, 10, .inl (fun _ => 0))), (mq47, .inl (E.2 1, 10, .inr (.inl (fun _ => 0)))), (mq55, .inl (E.2 0, 6, .inl (fun _ => 0))), (mq63, .inl (E.2 0, 60, .inl (fun _ => 0))), (mq71, .inl (E.2 0, 6, .inl (fun _ => 0))), (mq79, .inl (E.2 0, 6, .inl (fun _ => 0))), (mq87, .inl (E.2 0, 6, .inl (fun _ => 0))), (mq96, .inl (E.2 0, 12000, .inl (fun _ => 0))), (mq104, .inl (E.2 0, 8, .inl (fun _ => 0))), (mq112, .inl (E.2 2, 8, .inl (fun _ => 0))), (mq120, .inl (E.2 0, 8, .inl (fun _ => 0))), (mq129, .inl (E.2 0, 16000, .inl (fun _ => 0))), (mq137, .inl (E.2 0, 10, .inl (fun _ => 0))), (mq145, .inl (E.2 0, 10, .inl (fun _ => 0))), (q33, .inl (E.2 1, 1, .inr (.inl (fun _ => 0)))), (q34, .inl (E.2 6, 1, .inr (.inr (.inr (.inl (fun _ => 0))))))] H := hP
  have hD : va_D (za_A s.heap.size) [(q0v, .inr (8, [.ref q7, .ref q16, .ref q25, .ref q32, .ref q46, .int 0, .int 0, .int 0, .int 0, .long 0, .long 0])), (q7, .inl (E.2 3, 10, .inr (.inr (.inr (.inr (fun _ => none)))))), (q16, .inl (E.2 5, 6, .inr (.inr (.inr (.inr (fun _ => none)))))), (q25, .inl (E.2 4, 8, .inr (.inr (.inr (.inr (fun _ => none)))))), (q32, .inr (7, [.int (nI 12000), .ref q32_0, .int 0])), (q32_0, .inl (E.2 0, 16, .inl (fun _ => 0))), (q46, .inr (2, [.ref q46_0, .ref q46_2, .int 0, .int 0])), (q46_0, .inr (3, [.ref q46_1])), (q46_1, .inl (E.2 0, 10, .inl (fun _ => 0))), (q46_2, .inl (E.2 3, 10, .inr (.inr (.inr (.inr (fun _ => none)))))), (q1v, .inr (9, [.int 0, .int 0, .ref mq7, .ref mq15, .ref mq23, .ref mq31, .ref mq39, .ref mq47, .int 0, .ref mq55, .ref mq63, .ref mq71, .ref mq79, .ref mq87, .int 0, .long 0, .int 0, .ref mq96, .int 0, .ref mq104, .ref mq112, .ref mq120, .ref mq129, .ref mq137, .ref mq145])), (mq7, .inl (E.2 0, 10, .inl (fun _ => 0))), (mq15, .inl (E.2 0, 10, .inl (fun _ => 0))), (mq23, .inl (E.2 0, 10, .inl (fun _ => 0))), (mq31, .inl (E.2 0, 10, .inl (fun _ => 0))), (mq39, .inl (E.2 0, 10, .inl (fun _ => 0))), (mq47, .inl (E.2 1, 10, .inr (.inl (fun _ => 0)))), (mq55, .inl (E.2 0, 6, .inl (fun _ => 0))), (mq63, .inl (E.2 0, 60, .inl (fun _ => 0))), (mq71, .inl (E.2 0, 6, .inl (fun _ => 0))), (mq79, .inl (E.2 0, 6, .inl (fun _ => 0))), (mq87, .inl (E.2 0, 6, .inl (fun _ => 0))), (mq96, .inl (E.2 0, 12000, .inl (fun _ => 0))), (mq104, .inl (E.2 0, 8, .inl (fun _ => 0))), (mq112, .inl (E.2 2, 8, .inl (fun _ => 0))), (mq120, .inl (E.2 0, 8, .inl (fun _ => 0))), (mq129, .inl (E.2 0, 16000, .inl (fun _ => 0))), (mq137, .inl (E.2 0, 10, .inl (fun _ => 0))), (mq145, .inl (E.2 0, 10, .inl (fun _ => 0))), (q33, .inl (E.2 1, 1, .inr (.inl (fun _ => 0)))), (q34, .inl (E.2 6, 1, .inr (.inr (.inr (.inl (fun _ => 0))))))] := hD
  refine lv_astore (lv' := [(4, .ref q34), (3, .ref q33), (2, .ref q1v), (1, .ref q0v), (0, .ref b)]) hx hb dL_law_23 hl (by decide) rfl (fun ls hl => ?_)
  refine zb_iconst (n := 0) hx hb dL_law_25 (by decide) ?_
  refine lv_istore (lv' := [(5, .int (nI 0)), (4, .ref q34), (3, .ref q33), (2, .ref q1v), (1, .ref q0v), (0, .ref b)]) hx hb dL_law_26 hl (by decide) rfl (fun ls hl => ?_)
  obtain ⟨ad, had⟩ : ∃ z : za_Ad, z = fun κ _ => ([q0v, q7, q16, q25, q46, q46_2, q46_0, q46_1, 0, 0, 0, 0, q32, 0, q1v, mq7, mq15, mq23, mq31, mq39, mq47, mq55, mq63, mq71, mq79, mq87, mq96, mq104, mq112, mq120, mq129, mq137, mq145, q33, q34] : List Nat).getD κ 0 := ⟨_, rfl⟩
  have hG : za_G E s.heap.size (ad, zl_S0, zl_X0 q32_0, zl_S0, zl_Y0, 0, 0) H := by
    have at_ : ∀ κ i, za_x (ad, zl_S0, zl_X0 q32_0, zl_S0, zl_Y0, 0, 0) κ i → zl_r E H (ad, zl_S0, zl_X0 q32_0, zl_S0, zl_Y0, 0, 0) [(q0v, .inr (8, [.ref q7, .ref q16, .ref q25, .ref q32, .ref q46, .int 0, .int 0, .int 0, .int 0, .long 0, .long 0])), (q7, .inl (E.2 3, 10, .inr (.inr (.inr (.inr (fun _ => none)))))), (q16, .inl (E.2 5, 6, .inr (.inr (.inr (.inr (fun _ => none)))))), (q25, .inl (E.2 4, 8, .inr (.inr (.inr (.inr (fun _ => none)))))), (q32, .inr (7, [.int (nI 12000), .ref q32_0, .int 0])), (q32_0, .inl (E.2 0, 16, .inl (fun _ => 0))), (q46, .inr (2, [.ref q46_0, .ref q46_2, .int 0, .int 0])), (q46_0, .inr (3, [.ref q46_1])), (q46_1, .inl (E.2 0, 10, .inl (fun _ => 0))), (q46_2, .inl (E.2 3, 10, .inr (.inr (.inr (.inr (fun _ => none)))))), (q1v, .inr (9, [.int 0, .int 0, .ref mq7, .ref mq15, .ref mq23, .ref mq31, .ref mq39, .ref mq47, .int 0, .ref mq55, .ref mq63, .ref mq71, .ref mq79, .ref mq87, .int 0, .long 0, .int 0, .ref mq96, .int 0, .ref mq104, .ref mq112, .ref mq120, .ref mq129, .ref mq137, .ref mq145])), (mq7, .inl (E.2 0, 10, .inl (fun _ => 0))), (mq15, .inl (E.2 0, 10, .inl (fun _ => 0))), (mq23, .inl (E.2 0, 10, .inl (fun _ => 0))), (mq31, .inl (E.2 0, 10, .inl (fun _ => 0))), (mq39, .inl (E.2 0, 10, .inl (fun _ => 0))), (mq47, .inl (E.2 1, 10, .inr (.inl (fun _ => 0)))), (mq55, .inl (E.2 0, 6, .inl (fun _ => 0))), (mq63, .inl (E.2 0, 60, .inl (fun _ => 0))), (mq71, .inl (E.2 0, 6, .inl (fun _ => 0))), (mq79, .inl (E.2 0, 6, .inl (fun _ => 0))), (mq87, .inl (E.2 0, 6, .inl (fun _ => 0))), (mq96, .inl (E.2 0, 12000, .inl (fun _ => 0))), (mq104, .inl (E.2 0, 8, .inl (fun _ => 0))), (mq112, .inl (E.2 2, 8, .inl (fun _ => 0))), (mq120, .inl (E.2 0, 8, .inl (fun _ => 0))), (mq129, .inl (E.2 0, 16000, .inl (fun _ => 0))), (mq137, .inl (E.2 0, 10, .inl (fun _ => 0))), (mq145, .inl (E.2 0, 10, .inl (fun _ => 0))), (q33, .inl (E.2 1, 1, .inr (.inl (fun _ => 0)))), (q34, .inl (E.2 6, 1, .inr (.inr (.inr (.inl (fun _ => 0))))))] κ i := by
      intro κ i hx
      subst had
      refine za_k (P := fun κ => ∀ i, za_x ((fun κ _ => ([q0v, q7, q16, q25, q46, q46_2, q46_0, q46_1, 0, 0, 0, 0, q32, 0, q1v, mq7, mq15, mq23, mq31, mq39, mq47, mq55, mq63, mq71, mq79, mq87, mq96, mq104, mq112, mq120, mq129, mq137, mq145, q33, q34] : List Nat).getD κ 0), zl_S0, zl_X0 q32_0, zl_S0, zl_Y0, 0, 0) κ i → zl_r E H ((fun κ _ => ([q0v, q7, q16, q25, q46, q46_2, q46_0, q46_1, 0, 0, 0, 0, q32, 0, q1v, mq7, mq15, mq23, mq31, mq39, mq47, mq55, mq63, mq71, mq79, mq87, mq96, mq104, mq112, mq120, mq129, mq137, mq145, q33, q34] : List Nat).getD κ 0), zl_S0, zl_X0 q32_0, zl_S0, zl_Y0, 0, 0) [(q0v, .inr (8, [.ref q7, .ref q16, .ref q25, .ref q32, .ref q46, .int 0, .int 0, .int 0, .int 0, .long 0, .long 0])), (q7, .inl (E.2 3, 10, .inr (.inr (.inr (.inr (fun _ => none)))))), (q16, .inl (E.2 5, 6, .inr (.inr (.inr (.inr (fun _ => none)))))), (q25, .inl (E.2 4, 8, .inr (.inr (.inr (.inr (fun _ => none)))))), (q32, .inr (7, [.int (nI 12000), .ref q32_0, .int 0])), (q32_0, .inl (E.2 0, 16, .inl (fun _ => 0))), (q46, .inr (2, [.ref q46_0, .ref q46_2, .int 0, .int 0])), (q46_0, .inr (3, [.ref q46_1])), (q46_1, .inl (E.2 0, 10, .inl (fun _ => 0))), (q46_2, .inl (E.2 3, 10, .inr (.inr (.inr (.inr (fun _ => none)))))), (q1v, .inr (9, [.int 0, .int 0, .ref mq7, .ref mq15, .ref mq23, .ref mq31, .ref mq39, .ref mq47, .int 0, .ref mq55, .ref mq63, .ref mq71, .ref mq79, .ref mq87, .int 0, .long 0, .int 0, .ref mq96, .int 0, .ref mq104, .ref mq112, .ref mq120, .ref mq129, .ref mq137, .ref mq145])), (mq7, .inl (E.2 0, 10, .inl (fun _ => 0))), (mq15, .inl (E.2 0, 10, .inl (fun _ => 0))), (mq23, .inl (E.2 0, 10, .inl (fun _ => 0))), (mq31, .inl (E.2 0, 10, .inl (fun _ => 0))), (mq39, .inl (E.2 0, 10, .inl (fun _ => 0))), (mq47, .inl (E.2 1, 10, .inr (.inl (fun _ => 0)))), (mq55, .inl (E.2 0, 6, .inl (fun _ => 0))), (mq63, .inl (E.2 0, 60, .inl (fun _ => 0))), (mq71, .inl (E.2 0, 6, .inl (fun _ => 0))), (mq79, .inl (E.2 0, 6, .inl (fun _ => 0))), (mq87, .inl (E.2 0, 6, .inl (fun _ => 0))), (mq96, .inl (E.2 0, 12000, .inl (fun _ => 0))), (mq104, .inl (E.2 0, 8, .inl (fun _ => 0))), (mq112, .inl (E.2 2, 8, .inl (fun _ => 0))), (mq120, .inl (E.2 0, 8, .inl (fun _ => 0))), (mq129, .inl (E.2 0, 16000, .inl (fun _ => 0))), (mq137, .inl (E.2 0, 10, .inl (fun _ => 0))), (mq145, .inl (E.2 0, 10, .inl (fun _ => 0))), (q33, .inl (E.2 1, 1, .inr (.inl (fun _ => 0)))), (q34, .inl (E.2 6, 1, .inr (.inr (.inr (.inl (fun _ => 0))))))] κ i) (za_ex34 hx) ?_ ?_ ?_ ?_ ?_ ?_ ?_ ?_ ?_ ?_ ?_ ?_ ?_ ?_ ?_ ?_ ?_ ?_ ?_ ?_ ?_ ?_ ?_ ?_ ?_ ?_ ?_ ?_ ?_ ?_ ?_ ?_ ?_ ?_ ?_ i hx
      · intro i hx
        obtain rfl : i = 0 := hx.2
        exact ⟨0, rfl, _, rfl, fun h => h, rfl⟩
      · intro i hx
        obtain rfl : i = 0 := hx.2
        exact ⟨1, rfl, _, rfl, fun h => h, rfl⟩
      · intro i hx
        obtain rfl : i = 0 := hx.2
        exact ⟨2, rfl, _, rfl, fun h => h, rfl⟩
      · intro i hx
        obtain rfl : i = 0 := hx.2
        exact ⟨3, rfl, _, rfl, fun h => h, rfl⟩
      · intro i hx
        obtain rfl : i = 0 := hx.2
        exact ⟨6, rfl, _, rfl, fun h => h, rfl⟩
      · intro i hx
        obtain rfl : i = 0 := hx.2
        exact ⟨9, rfl, _, rfl, fun h => h, rfl⟩
      · intro i hx
        obtain rfl : i = 10 := by
          rcases (show i < 0 ∨ i = 10 from hx) with h | h
          · exact absurd h (Nat.not_lt_zero _)
          · exact h
        exact ⟨7, rfl, _, rfl, fun h => h, rfl⟩
      · intro i hx
        obtain rfl : i = 10 := by
          rcases (show i < 0 ∨ i = 10 from hx) with h | h
          · exact absurd h (Nat.not_lt_zero _)
          · exact h
        exact ⟨8, rfl, _, rfl, fun h => h, rfl⟩
      · intro i hx
        exact absurd (show i < 0 from hx) (Nat.not_lt_zero _)
      · intro i hx
        exact absurd (show i < 0 from hx) (Nat.not_lt_zero _)
      · intro i hx
        exact absurd (show i < 0 from hx) (Nat.not_lt_zero _)
      · intro i hx
        exact absurd (show i < 0 from hx) (Nat.not_lt_zero _)
      · intro i hx
        obtain rfl : i = 8 := by
          rcases (show i < 0 ∨ i = 8 from hx) with h | h
          · exact absurd h (Nat.not_lt_zero _)
          · exact h
        exact ⟨4, rfl, _, rfl, fun h => h, rfl⟩
      · intro i hx
        obtain rfl : i = 8 := by
          rcases (show i < 0 ∨ i = 8 from hx) with h | h
          · exact absurd h (Nat.not_lt_zero _)
          · exact h
        exact ⟨5, rfl, _, rfl, fun h => h, rfl⟩
      · intro i hx
        obtain rfl : i = 0 := hx.2
        exact ⟨10, rfl, _, rfl, fun h => h, rfl⟩
      · intro i hx
        obtain rfl : i = 0 := hx.2
        exact ⟨11, rfl, _, rfl, fun h => h, rfl⟩
      · intro i hx
        obtain rfl : i = 0 := hx.2
        exact ⟨12, rfl, _, rfl, fun h => h, rfl⟩
      · intro i hx
        obtain rfl : i = 0 := hx.2
        exact ⟨13, rfl, _, rfl, fun h => h, rfl⟩
      · intro i hx
        obtain rfl : i = 0 := hx.2
        exact ⟨14, rfl, _, rfl, fun h => h, rfl⟩
      · intro i hx
        obtain rfl : i = 0 := hx.2
        exact ⟨15, rfl, _, rfl, fun h => h, rfl⟩
      · intro i hx
        obtain rfl : i = 0 := hx.2
        exact ⟨16, rfl, _, rfl, fun h => h, rfl⟩
      · intro i hx
        obtain rfl : i = 0 := hx.2
        exact ⟨17, rfl, _, rfl, fun h => h, rfl⟩
      · intro i hx
        obtain rfl : i = 0 := hx.2
        exact ⟨18, rfl, _, rfl, fun h => h, rfl⟩
      · intro i hx
        obtain rfl : i = 0 := hx.2
        exact ⟨19, rfl, _, rfl, fun h => h, rfl⟩
      · intro i hx
        obtain rfl : i = 0 := hx.2
        exact ⟨20, rfl, _, rfl, fun h => h, rfl⟩
      · intro i hx
        obtain rfl : i = 0 := hx.2
        exact ⟨21, rfl, _, rfl, fun h => h, rfl⟩
      · intro i hx
        obtain rfl : i = 0 := hx.2
        exact ⟨22, rfl, _, rfl, fun h => h, rfl⟩
      · intro i hx
        obtain rfl : i = 0 := hx.2
        exact ⟨23, rfl, _, rfl, fun h => h, rfl⟩
      · intro i hx
        obtain rfl : i = 0 := hx.2
        exact ⟨24, rfl, _, rfl, fun h => h, rfl⟩
      · intro i hx
        obtain rfl : i = 0 := hx.2
        exact ⟨25, rfl, _, rfl, fun h => zl_fn h (fun j hj => by show nI (if j < 8 then 0 else 0) = 0; rw [ite_self]; rfl), rfl⟩
      · intro i hx
        obtain rfl : i = 0 := hx.2
        exact ⟨26, rfl, _, rfl, fun h => zl_fn h (fun j hj => by show za_enc (if j < 16000 then some 0 else none) = 0; rw [if_pos hj]; rfl), rfl⟩
      · intro i hx
        obtain rfl : i = 0 := hx.2
        exact ⟨27, rfl, _, rfl, fun h => h, rfl⟩
      · intro i hx
        obtain rfl : i = 0 := hx.2
        exact ⟨28, rfl, _, rfl, fun h => h, rfl⟩
      · intro i hx
        obtain rfl : i = 0 := hx.2
        exact ⟨29, rfl, _, rfl, fun h => h, rfl⟩
      · intro i hx
        obtain rfl : i = 0 := hx.2
        exact ⟨30, rfl, _, rfl, fun h => h, rfl⟩
    refine ⟨fun κ i hx => ?_, fun κ i κ' i' h1 h2 e => ?_⟩
    · obtain ⟨k, -, x, h3, h4, -⟩ := at_ κ i hx
      exact ⟨h4 (hP k _ h3), hD.2 k _ h3⟩
    · obtain ⟨k, k1, x, h3, -, i1⟩ := at_ κ i h1
      obtain ⟨k', k2, x', h3', -, i2⟩ := at_ κ' i' h2
      have hkk := hD.1 k k' _ _ h3 h3' e
      have a1 := zl_ex h1
      have a2 := zl_ex h2
      have hκ : κ = κ' := zl_inj a1 a2 (by rw [← k1, ← k2]; exact hkk)
      subst hκ
      exact ⟨rfl, by rw [i1, i2]⟩
  have hl : lv_has ls 9 [(0, .ref b), (1, .ref (ad 0 0)), (2, .ref (ad 14 0)), (3, .ref (ad 33 0)), (4, .ref (ad 34 0)), (5, .int (nI 0))] := by
    subst had
    exact lv_sub hl [5, 4, 3, 2, 1, 0] rfl
  exact lw_loop hl0 hL C1 hK hZ ao2 (Nat.le_refl _) (Nat.le_refl _) hbA L 0 (Nat.zero_le _) (by omega) ad zl_S0 (zl_X0 q32_0) zl_Y0 0 0 H _ _ _ ls hG hS (zl_D0 _) zl_60 zl_B0 (by omega) (by omega) hl
