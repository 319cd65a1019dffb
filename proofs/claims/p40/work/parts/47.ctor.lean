
/-- what constructors ask besides: nest mates' links, arrays of references -/
def zk_N (L : List String) (U : State) : Prop := (∀ q ∈ za_nests, va_Nw (.methodLinkNest q.1 q.2.1 q.2.2 RX6) U) ∧ ∀ C ∈ L, va_AO C U
theorem zk_N.warm {L L' : List String} {s U : State} (hW : s.WarmedH U.vm) (h : zk_N L s) (hL : ∀ C ∈ L', C ∈ L) : zk_N L' U := ⟨fun q hq => va_Nw.warmM hW (h.1 q hq), fun C hC => (h.2 C (hL C hC)).moved hW.alike⟩
theorem zk_N.sub {L L' : List String} {U : State} (h : zk_N L U) (hL : ∀ C ∈ L', C ∈ L) : zk_N L' U := ⟨h.1, fun C hC => h.2 C (hL C hC)⟩
def zk_Pc (E : za_E) (av : List Value) (ws : va_W) (sz : Nat) (L : List String) : Array Value → State → Prop := va_Pc av (fun U => U.heap.size = sz ∧ va_P E.1 vwCl ws U.heap ∧ za_K E U ∧ zk_N L U ∧ va_D (fun _ => True) ws)
theorem zk_blind {E : za_E} {av : List Value} {ws : va_W} {sz : Nat} {L : List String} : FrameBlind (zk_Pc E av ws sz L) := fun a U g mk h =>
  ⟨h.1, h.2.1, h.2.2.1, va_K.moved (u := U) (U := U.calling g mk a) (Vm.Alike.refl U.vm) h.2.2.2.1, ⟨fun q hq => va_Nw.same rfl (u := U) (U := U.calling g mk a) rfl (h.2.2.2.2.1.1 q hq), fun C hC => (h.2.2.2.2.1.2 C hC).moved (Vm.Alike.refl U.vm)⟩, h.2.2.2.2.2⟩
set_option maxRecDepth 100000 in
set_option maxHeartbeats 4000000 in
theorem k_X5_init (l : Launch) {E : za_E} (a sz : Nat) (x : Int32) : Met l yX5_init wsX5_init ({ frames := 1, cells := 1, slots := 16, locals := 12 } : Room) (zk_Pc E [.ref a, .int x] [(a, .inr (7, [.int 0, .null, .int 0]))] sz [])
    (va_Qv (S := Unit) (fun _ => True) (fun _ t => ∃ q7, va_P E.1 vwCl [(a, .inr (7, [.int x, .ref q7, .int 0])), (q7, .inl (E.2 0, 16, .inl (fun _ => 0)))] t.heap ∧ va_D (va_A [(a, .inr (7, [.int 0, .null, .int 0]))] sz) [(a, .inr (7, [.int x, .ref q7, .int 0])), (q7, .inl (E.2 0, 16, .inl (fun _ => 0)))]) (va_A [(a, .inr (7, [.int 0, .null, .int 0]))] sz)) 1 16 (va_A [(a, .inr (7, [.int 0, .null, .int 0]))] sz) := by
  refine Met.ofW (cc := cX5_init) (maxL := 2) (ret := none) (by decide) rfl ?_
  intro p e s m args below meth c s₁ B hml hv
  obtain ⟨rfl, hsz, hP, hK, hN, hD0⟩ := hv
  have hx := B.exec
  have hb := B.bytes
  have hr := B.returns
  have hts := atoms_spec (ws := wsX5_init) B.pre
  have hown : s.vm.findClass RX5 = some m.cls := findClass_of_methodNamed B.named
  have hlocks := B.notSynchronized
  have hin : meth.name = "<init>" := (name_of_methodNamed B.named B.method).1
  subst hsz
  have hD := hD0.self (sz := s.heap.size)
  generalize hAe : va_A [(a, .inr (7, [.int 0, .null, .int 0]))] s.heap.size = A at hD ⊢
  have hA : ∀ q : Nat, s.heap.size ≤ q → A q := fun q h => by rw [← hAe]; exact Or.inr h
  have hS : va_S A s.heap s.heap [] := va_S.rf
  have hP : va_P E.1 vwCl [(a, .inr (7, [.int 0, .null, .int 0]))] s.heap := hP
  have hl := lv_entry ([.ref a, .int x]) (n := 2) (Nat.le_of_ble_eq_true rfl)
  rw [lg_entry_eq]
  generalize (lg_sl ([.ref a, .int x]) ++ List.replicate (2 - (lg_sl ([.ref a, .int x])).length) Slot.unset).toArray = ls at hl ⊢
  have hl : lv_has ls 2 [(0, .ref a), (1, .int x)] := hl
  refine lv_aload_n hx hb dX5_init_0 rfl (lv_at hl 0 rfl) ?_
  refine W.objInit hx hb hown (hts (.methodLink RX5 3 objectInit) (by decide +kernel)) (hts (.instanceMethod objectInit) (by decide +kernel)) (hts (.code objectInit ⟨#[0xb1]⟩ 1 none) (by decide +kernel)) rfl (by rw [hml]; exact hl.1) rfl dX5_init_1 (Nat.le_of_ble_eq_true rfl) (Nat.le_of_ble_eq_true rfl) ?_
  refine W.eq (g2 := F0 m 4 ls []) rfl ?_
  refine lv_aload_n hx hb dX5_init_4 rfl (lv_at hl 0 rfl) ?_
  refine zb_bipush (n := 16) hx hb dX5_init_5 (by decide) ?_
  refine va_newa (atype := .int) (N' := 16) (a0 := (16, .inl (fun _ => 0))) hx hb (hts (.arrayClass .int) (by decide +kernel)) rfl hK hP hD hS hA (fun _ => rfl) (nI_pos (by decide)) (nI_clamp (by decide)) (Nat.le_of_ble_eq_true rfl) (Nat.le_of_ble_eq_true rfl) (Nat.le_of_ble_eq_true rfl) dX5_init_7 (fun q7 cA H hK9 hP hD hS => ?_)
  have cE : cA = E.2 0 := Option.some.inj ((hK9.2 7 _ rfl).2.symm.trans (hK.2 0 _ rfl).2)
  subst cE
  have hP : va_P E.1 vwCl [(a, .inr (7, [.int 0, .null, .int 0])), (q7, .inl (E.2 0, 16, .inl (fun _ => 0)))] H := hP
  have hD : va_D A [(a, .inr (7, [.int 0, .null, .int 0])), (q7, .inl (E.2 0, 16, .inl (fun _ => 0)))] := hD
  refine W.widen (k := 1) (n := 16) (Nat.le_of_ble_eq_true rfl) (Nat.le_of_ble_eq_true rfl) ?_
  refine va_put (D := E.1) (ci := 7) (v := .ref q7) (ty := .array .int) (C := RX5) (T := TX5) (N := 3) hx hb hts (by decide +kernel) tyX5 tyX5_ok nmX5 hown hK hP hD hS 0 rfl rfl 1 (by decide) (hts (.fieldLink RX5 9 "VideoBridge$Row" "numbers" "[I") (by decide +kernel)) (fun _ h9 => h9) rfl (by decide +kernel) rfl rfl (Nat.le_of_ble_eq_true rfl) dX5_init_9 (fun H locs hP hD hS => ?_)
  have hP : va_P E.1 vwCl [(a, .inr (7, [.int 0, .ref q7, .int 0])), (q7, .inl (E.2 0, 16, .inl (fun _ => 0)))] H := hP
  have hD : va_D A [(a, .inr (7, [.int 0, .ref q7, .int 0])), (q7, .inl (E.2 0, 16, .inl (fun _ => 0)))] := hD
  refine lv_aload_n hx hb dX5_init_12 rfl (lv_at hl 0 rfl) ?_
  refine lv_iload_n hx hb dX5_init_13 rfl (lv_at hl 1 rfl) ?_
  refine va_putF (D := E.1) (ci := 7) (v := .int x) (ty := .int) (C := RX5) (T := TX5) (N := 3) hx hb hts (by decide +kernel) tyX5 tyX5_ok nmX5 hown hK hP hD hS 0 rfl rfl 0 (by decide) (hts (.fieldLink RX5 15 "VideoBridge$Row" "limit" "I") (by decide +kernel)) (fun _ h9 => h9) rfl hin rfl (by decide +kernel) rfl rfl (Nat.le_of_ble_eq_true rfl) dX5_init_14 (fun H locs hP hD hS => ?_)
  have hP : va_P E.1 vwCl [(a, .inr (7, [.int x, .ref q7, .int 0])), (q7, .inl (E.2 0, 16, .inl (fun _ => 0)))] H := hP
  have hD : va_D A [(a, .inr (7, [.int x, .ref q7, .int 0])), (q7, .inl (E.2 0, 16, .inl (fun _ => 0)))] := hD
  have hP9 := hP.sub (ws' := [(a, .inr (7, [.int x, .ref q7, .int 0])), (q7, .inl (E.2 0, 16, .inl (fun _ => 0)))]) [0, 1] rfl
  have hD9 := hD.sub (ws' := [(a, .inr (7, [.int x, .ref q7, .int 0])), (q7, .inl (E.2 0, 16, .inl (fun _ => 0)))]) [0, 1] (by decide) rfl
  exact W.vret hx hb hr (fun t ht hW => ⟨⟨(), rfl, trivial, q7, by rw [ht]; exact hP9, hD9⟩, hS.F ht⟩) hS.2.2 dX5_init_17 hlocks

set_option maxRecDepth 100000 in
set_option maxHeartbeats 4000000 in
theorem k_X1_init (l : Launch) {E : za_E} (a sz : Nat) : Met l yX1_init wsX1_init ({ frames := 1, cells := 1, slots := 10, locals := 12 } : Room) (zk_Pc E [.ref a] [(a, .inr (3, [.null]))] sz [])
    (va_Qv (S := Unit) (fun _ => True) (fun _ t => ∃ q7, va_P E.1 vwCl [(a, .inr (3, [.ref q7])), (q7, .inl (E.2 0, 10, .inl (fun _ => 0)))] t.heap ∧ va_D (va_A [(a, .inr (3, [.null]))] sz) [(a, .inr (3, [.ref q7])), (q7, .inl (E.2 0, 10, .inl (fun _ => 0)))]) (va_A [(a, .inr (3, [.null]))] sz)) 1 10 (va_A [(a, .inr (3, [.null]))] sz) := by
  refine Met.ofW (cc := cX1_init) (maxL := 1) (ret := none) (by decide) rfl ?_
  intro p e s m args below meth c s₁ B hml hv
  obtain ⟨rfl, hsz, hP, hK, hN, hD0⟩ := hv
  have hx := B.exec
  have hb := B.bytes
  have hr := B.returns
  have hts := atoms_spec (ws := wsX1_init) B.pre
  have hown : s.vm.findClass RX1 = some m.cls := findClass_of_methodNamed B.named
  have hlocks := B.notSynchronized
  have hin : meth.name = "<init>" := (name_of_methodNamed B.named B.method).1
  subst hsz
  have hD := hD0.self (sz := s.heap.size)
  generalize hAe : va_A [(a, .inr (3, [.null]))] s.heap.size = A at hD ⊢
  have hA : ∀ q : Nat, s.heap.size ≤ q → A q := fun q h => by rw [← hAe]; exact Or.inr h
  have hS : va_S A s.heap s.heap [] := va_S.rf
  have hP : va_P E.1 vwCl [(a, .inr (3, [.null]))] s.heap := hP
  have hl := lv_entry ([.ref a]) (n := 1) (Nat.le_of_ble_eq_true rfl)
  rw [lg_entry_eq]
  generalize (lg_sl ([.ref a]) ++ List.replicate (1 - (lg_sl ([.ref a])).length) Slot.unset).toArray = ls at hl ⊢
  have hl : lv_has ls 1 [(0, .ref a)] := hl
  refine lv_aload_n hx hb dX1_init_0 rfl (lv_at hl 0 rfl) ?_
  refine W.objInit hx hb hown (hts (.methodLink RX1 3 objectInit) (by decide +kernel)) (hts (.instanceMethod objectInit) (by decide +kernel)) (hts (.code objectInit ⟨#[0xb1]⟩ 1 none) (by decide +kernel)) rfl (by rw [hml]; exact hl.1) rfl dX1_init_1 (Nat.le_of_ble_eq_true rfl) (Nat.le_of_ble_eq_true rfl) ?_
  refine W.eq (g2 := F0 m 4 ls []) rfl ?_
  refine lv_aload_n hx hb dX1_init_4 rfl (lv_at hl 0 rfl) ?_
  refine zb_bipush (n := 10) hx hb dX1_init_5 (by decide) ?_
  refine va_newa (atype := .int) (N' := 10) (a0 := (10, .inl (fun _ => 0))) hx hb (hts (.arrayClass .int) (by decide +kernel)) rfl hK hP hD hS hA (fun _ => rfl) (nI_pos (by decide)) (nI_clamp (by decide)) (Nat.le_of_ble_eq_true rfl) (Nat.le_of_ble_eq_true rfl) (Nat.le_of_ble_eq_true rfl) dX1_init_7 (fun q7 cA H hK9 hP hD hS => ?_)
  have cE : cA = E.2 0 := Option.some.inj ((hK9.2 7 _ rfl).2.symm.trans (hK.2 0 _ rfl).2)
  subst cE
  have hP : va_P E.1 vwCl [(a, .inr (3, [.null])), (q7, .inl (E.2 0, 10, .inl (fun _ => 0)))] H := hP
  have hD : va_D A [(a, .inr (3, [.null])), (q7, .inl (E.2 0, 10, .inl (fun _ => 0)))] := hD
  refine W.widen (k := 1) (n := 10) (Nat.le_of_ble_eq_true rfl) (Nat.le_of_ble_eq_true rfl) ?_
  refine va_putF (D := E.1) (ci := 3) (v := .ref q7) (ty := .array .int) (C := RX1) (T := TX1) (N := 1) hx hb hts (by decide +kernel) tyX1 tyX1_ok nmX1 hown hK hP hD hS 0 rfl rfl 0 (by decide) (hts (.fieldLink RX1 9 "VideoBridge$Layers" "row" "[I") (by decide +kernel)) (fun _ h9 => h9) rfl hin rfl (by decide +kernel) rfl rfl (Nat.le_of_ble_eq_true rfl) dX1_init_9 (fun H locs hP hD hS => ?_)
  have hP : va_P E.1 vwCl [(a, .inr (3, [.ref q7])), (q7, .inl (E.2 0, 10, .inl (fun _ => 0)))] H := hP
  have hD : va_D A [(a, .inr (3, [.ref q7])), (q7, .inl (E.2 0, 10, .inl (fun _ => 0)))] := hD
  have hP9 := hP.sub (ws' := [(a, .inr (3, [.ref q7])), (q7, .inl (E.2 0, 10, .inl (fun _ => 0)))]) [0, 1] rfl
  have hD9 := hD.sub (ws' := [(a, .inr (3, [.ref q7])), (q7, .inl (E.2 0, 10, .inl (fun _ => 0)))]) [0, 1] (by decide) rfl
  exact W.vret hx hb hr (fun t ht hW => ⟨⟨(), rfl, trivial, q7, by rw [ht]; exact hP9, hD9⟩, hS.F ht⟩) hS.2.2 dX1_init_12 hlocks

set_option maxRecDepth 100000 in
set_option maxHeartbeats 4000000 in
theorem k_X2_init (l : Launch) {E : za_E} (a sz : Nat) (x : Int32) (y : Int32) : Met l yX2_init wsX2_init ({ frames := 2, cells := 2, slots := 11, locals := 32 } : Room) (zk_Pc E [.ref a, .int x, .int y] [(a, .inr (4, [.int 0, .null, .int 0, .int 0, .int 0, .long 0, .null, .null]))] sz [])
    (va_Qv (S := Unit) (fun _ => True) (fun _ t => ∃ q5, ∃ q5_0, va_P E.1 vwCl [(a, .inr (4, [.int x, .ref q5, .int y, .int 0, .int 0, .long 0, .null, .null])), (q5, .inr (3, [.ref q5_0])), (q5_0, .inl (E.2 0, 10, .inl (fun _ => 0)))] t.heap ∧ va_D (va_A [(a, .inr (4, [.int 0, .null, .int 0, .int 0, .int 0, .long 0, .null, .null]))] sz) [(a, .inr (4, [.int x, .ref q5, .int y, .int 0, .int 0, .long 0, .null, .null])), (q5, .inr (3, [.ref q5_0])), (q5_0, .inl (E.2 0, 10, .inl (fun _ => 0)))]) (va_A [(a, .inr (4, [.int 0, .null, .int 0, .int 0, .int 0, .long 0, .null, .null]))] sz)) 2 11 (va_A [(a, .inr (4, [.int 0, .null, .int 0, .int 0, .int 0, .long 0, .null, .null]))] sz) := by
  refine Met.ofW (cc := cX2_init) (maxL := 3) (ret := none) (by decide) rfl ?_
  intro p e s m args below meth c s₁ B hml hv
  obtain ⟨rfl, hsz, hP, hK, hN, hD0⟩ := hv
  have hx := B.exec
  have hb := B.bytes
  have hr := B.returns
  have hts := atoms_spec (ws := wsX2_init) B.pre
  have hown : s.vm.findClass RX2 = some m.cls := findClass_of_methodNamed B.named
  have hlocks := B.notSynchronized
  have hin : meth.name = "<init>" := (name_of_methodNamed B.named B.method).1
  subst hsz
  have hD := hD0.self (sz := s.heap.size)
  generalize hAe : va_A [(a, .inr (4, [.int 0, .null, .int 0, .int 0, .int 0, .long 0, .null, .null]))] s.heap.size = A at hD ⊢
  have hA : ∀ q : Nat, s.heap.size ≤ q → A q := fun q h => by rw [← hAe]; exact Or.inr h
  have hS : va_S A s.heap s.heap [] := va_S.rf
  have hP : va_P E.1 vwCl [(a, .inr (4, [.int 0, .null, .int 0, .int 0, .int 0, .long 0, .null, .null]))] s.heap := hP
  have hl := lv_entry ([.ref a, .int x, .int y]) (n := 3) (Nat.le_of_ble_eq_true rfl)
  rw [lg_entry_eq]
  generalize (lg_sl ([.ref a, .int x, .int y]) ++ List.replicate (3 - (lg_sl ([.ref a, .int x, .int y])).length) Slot.unset).toArray = ls at hl ⊢
  have hl : lv_has ls 3 [(0, .ref a), (1, .int x), (2, .int y)] := hl
  refine lv_aload_n hx hb dX2_init_0 rfl (lv_at hl 0 rfl) ?_
  refine W.objInit hx hb hown (hts (.methodLink RX2 1 objectInit) (by decide +kernel)) (hts (.instanceMethod objectInit) (by decide +kernel)) (hts (.code objectInit ⟨#[0xb1]⟩ 1 none) (by decide +kernel)) rfl (by rw [hml]; exact hl.1) rfl dX2_init_1 (Nat.le_of_ble_eq_true rfl) (Nat.le_of_ble_eq_true rfl) ?_
  refine W.eq (g2 := F0 m 4 ls []) rfl ?_
  refine lv_aload_n hx hb dX2_init_4 rfl (lv_at hl 0 rfl) ?_
  refine va_new (ci := 3) (fs := [.null]) (C := RX1) (T := TX1) (N := 1) hx hb hts (by decide +kernel) tyX1 tyX1_ok hown (hts (.classLink RX2 7 RX1) (by decide +kernel)) (hts (.instantiable RX1 1) (by decide +kernel)) (hts (.initialized RX1) (by decide +kernel)) hK hP hD hS hA rfl (fun j hj => by rcases (show j = 0 by omega) with rfl <;> rfl) (Nat.le_of_ble_eq_true rfl) (Nat.le_of_ble_eq_true rfl) dX2_init_5 (fun q5 H hP hD hS => ?_)
  have hP : va_P E.1 vwCl [(a, .inr (4, [.int 0, .null, .int 0, .int 0, .int 0, .long 0, .null, .null])), (q5, .inr (3, [.null]))] H := hP
  have hD : va_D A [(a, .inr (4, [.int 0, .null, .int 0, .int 0, .int 0, .long 0, .null, .null])), (q5, .inr (3, [.null]))] := hD
  refine W.widen (k := 1) (n := 1) (Nat.le_of_ble_eq_true rfl) (Nat.le_of_ble_eq_true rfl) ?_
  refine lv_dup hx hb dX2_init_8 rfl ?_
  have hPc := hP.sub (ws' := [(q5, .inr (3, [.null]))]) [1] rfl
  have hDc := hD.sub (ws' := [(q5, .inr (3, [.null]))]) [1] (by decide) rfl
  have hFc := va_free (wc := [(q5, .inr (3, [.null]))]) hD hS hA [1] rfl
  refine va_callv (va_runIN (As := []) (rest := [.ref q5, .ref a]) ⟨hx, hb, hml, hown, hts⟩ (k_X1_init l (E := E) q5 H.size) ⟨va_cnB (host := RX6) 0 hts gX2_init_X1_init_n9 rfl rfl rfl (hN.1 (RX2, 9, yX1_init) (by simp [za_nests])) (hts (.initialized RX1) (by decide +kernel)) (by decide +kernel) ⟨Nat.le_of_ble_eq_true rfl, Nat.le_of_ble_eq_true rfl⟩, rfl, hts (.instanceMethod yX1_init) (by decide +kernel)⟩ ⟨zk_blind, fun U hU hW => ⟨rfl, by rw [hU], by rw [hU]; exact hPc, va_K.moved hW.alike hK, hN.warm hW (by simp), hDc.weaken (fun _ _ _ _ => trivial)⟩⟩ rfl rfl hl.1 rfl (lv_room (Nat.le_of_ble_eq_true rfl)) dX2_init_9 ⟨Nat.le_of_ble_eq_true rfl, Nat.le_of_ble_eq_true rfl⟩) hS (fun q _ h => hFc q h) hFc (fun u t H1 locs ht hvm hw hB hz1 hk1 hS => ?_)
  obtain ⟨q5_0, hP1, hD1⟩ := hB
  rw [ht] at hP1
  obtain ⟨hP, hD⟩ := va_join (wr := [(a, .inr (4, [.int 0, .null, .int 0, .int 0, .int 0, .long 0, .null, .null]))]) (w1 := [(q5, .inr (3, [.ref q5_0])), (q5_0, .inl (E.2 0, 10, .inl (fun _ => 0)))]) hP hD [1] [0] rfl rfl (by decide) (by decide) hk1 hFc hP1 hD1
  generalize H1 = H at hP hS ⊢
  have hP : va_P E.1 vwCl [(a, .inr (4, [.int 0, .null, .int 0, .int 0, .int 0, .long 0, .null, .null])), (q5, .inr (3, [.ref q5_0])), (q5_0, .inl (E.2 0, 10, .inl (fun _ => 0)))] H := hP
  have hD : va_D A [(a, .inr (4, [.int 0, .null, .int 0, .int 0, .int 0, .long 0, .null, .null])), (q5, .inr (3, [.ref q5_0])), (q5_0, .inl (E.2 0, 10, .inl (fun _ => 0)))] := hD
  refine W.widen (k := 2) (n := 11) (Nat.le_of_ble_eq_true rfl) (Nat.le_of_ble_eq_true rfl) ?_
  refine va_putF (D := E.1) (ci := 4) (v := .ref q5) (ty := .object "VideoBridge$Layers") (C := RX2) (T := TX2) (N := 8) hx hb hts (by decide +kernel) tyX2 tyX2_ok nmX2 hown hK hP hD hS 0 rfl rfl 1 (by decide) (hts (.fieldLink RX2 10 "VideoBridge$Person" "layers" "LVideoBridge$Layers;") (by decide +kernel)) (fun _ h9 => h9) rfl hin rfl (by decide +kernel) rfl rfl (Nat.le_of_ble_eq_true rfl) dX2_init_12 (fun H locs hP hD hS => ?_)
  have hP : va_P E.1 vwCl [(a, .inr (4, [.int 0, .ref q5, .int 0, .int 0, .int 0, .long 0, .null, .null])), (q5, .inr (3, [.ref q5_0])), (q5_0, .inl (E.2 0, 10, .inl (fun _ => 0)))] H := hP
  have hD : va_D A [(a, .inr (4, [.int 0, .ref q5, .int 0, .int 0, .int 0, .long 0, .null, .null])), (q5, .inr (3, [.ref q5_0])), (q5_0, .inl (E.2 0, 10, .inl (fun _ => 0)))] := hD
  refine lv_aload_n hx hb dX2_init_15 rfl (lv_at hl 0 rfl) ?_
  refine lv_iload_n hx hb dX2_init_16 rfl (lv_at hl 1 rfl) ?_
  refine va_putF (D := E.1) (ci := 4) (v := .int x) (ty := .int) (C := RX2) (T := TX2) (N := 8) hx hb hts (by decide +kernel) tyX2 tyX2_ok nmX2 hown hK hP hD hS 0 rfl rfl 0 (by decide) (hts (.fieldLink RX2 16 "VideoBridge$Person" "number" "I") (by decide +kernel)) (fun _ h9 => h9) rfl hin rfl (by decide +kernel) rfl rfl (Nat.le_of_ble_eq_true rfl) dX2_init_17 (fun H locs hP hD hS => ?_)
  have hP : va_P E.1 vwCl [(a, .inr (4, [.int x, .ref q5, .int 0, .int 0, .int 0, .long 0, .null, .null])), (q5, .inr (3, [.ref q5_0])), (q5_0, .inl (E.2 0, 10, .inl (fun _ => 0)))] H := hP
  have hD : va_D A [(a, .inr (4, [.int x, .ref q5, .int 0, .int 0, .int 0, .long 0, .null, .null])), (q5, .inr (3, [.ref q5_0])), (q5_0, .inl (E.2 0, 10, .inl (fun _ => 0)))] := hD
  refine lv_aload_n hx hb dX2_init_20 rfl (lv_at hl 0 rfl) ?_
  refine lv_iload_n hx hb dX2_init_21 rfl (lv_at hl 2 rfl) ?_
  refine va_put (D := E.1) (ci := 4) (v := .int y) (ty := .int) (C := RX2) (T := TX2) (N := 8) hx hb hts (by decide +kernel) tyX2 tyX2_ok nmX2 hown hK hP hD hS 0 rfl rfl 2 (by decide) (hts (.fieldLink RX2 20 "VideoBridge$Person" "budget" "I") (by decide +kernel)) (fun _ h9 => h9) rfl (by decide +kernel) rfl rfl (Nat.le_of_ble_eq_true rfl) dX2_init_22 (fun H locs hP hD hS => ?_)
  have hP : va_P E.1 vwCl [(a, .inr (4, [.int x, .ref q5, .int y, .int 0, .int 0, .long 0, .null, .null])), (q5, .inr (3, [.ref q5_0])), (q5_0, .inl (E.2 0, 10, .inl (fun _ => 0)))] H := hP
  have hD : va_D A [(a, .inr (4, [.int x, .ref q5, .int y, .int 0, .int 0, .long 0, .null, .null])), (q5, .inr (3, [.ref q5_0])), (q5_0, .inl (E.2 0, 10, .inl (fun _ => 0)))] := hD
  have hP9 := hP.sub (ws' := [(a, .inr (4, [.int x, .ref q5, .int y, .int 0, .int 0, .long 0, .null, .null])), (q5, .inr (3, [.ref q5_0])), (q5_0, .inl (E.2 0, 10, .inl (fun _ => 0)))]) [0, 1, 2] rfl
  have hD9 := hD.sub (ws' := [(a, .inr (4, [.int x, .ref q5, .int y, .int 0, .int 0, .long 0, .null, .null])), (q5, .inr (3, [.ref q5_0])), (q5_0, .inl (E.2 0, 10, .inl (fun _ => 0)))]) [0, 1, 2] (by decide) rfl
  exact W.vret hx hb hr (fun t ht hW => ⟨⟨(), rfl, trivial, q5, q5_0, by rw [ht]; exact hP9, hD9⟩, hS.F ht⟩) hS.2.2 dX2_init_25 hlocks

set_option maxRecDepth 100000 in
set_option maxHeartbeats 4000000 in
theorem k_X4_init (l : Launch) {E : za_E} (a sz : Nat) (x : Int32) : Met l yX4_init wsX4_init ({ frames := 1, cells := 1, slots := 10, locals := 12 } : Room) (zk_Pc E [.ref a, .int x] [(a, .inr (6, [.int 0, .null, .int 0, .null, .null, .int 0]))] sz [RX2])
    (va_Qv (S := Unit) (fun _ => True) (fun _ t => ∃ q7, va_P E.1 vwCl [(a, .inr (6, [.int x, .ref q7, .int 0, .null, .null, .int 0])), (q7, .inl (E.2 3, 10, .inr (.inr (.inr (.inr (fun _ => none))))))] t.heap ∧ va_D (va_A [(a, .inr (6, [.int 0, .null, .int 0, .null, .null, .int 0]))] sz) [(a, .inr (6, [.int x, .ref q7, .int 0, .null, .null, .int 0])), (q7, .inl (E.2 3, 10, .inr (.inr (.inr (.inr (fun _ => none))))))]) (va_A [(a, .inr (6, [.int 0, .null, .int 0, .null, .null, .int 0]))] sz)) 1 10 (va_A [(a, .inr (6, [.int 0, .null, .int 0, .null, .null, .int 0]))] sz) := by
  refine Met.ofW (cc := cX4_init) (maxL := 2) (ret := none) (by decide) rfl ?_
  intro p e s m args below meth c s₁ B hml hv
  obtain ⟨rfl, hsz, hP, hK, hN, hD0⟩ := hv
  have hx := B.exec
  have hb := B.bytes
  have hr := B.returns
  have hts := atoms_spec (ws := wsX4_init) B.pre
  have hown : s.vm.findClass RX4 = some m.cls := findClass_of_methodNamed B.named
  have hlocks := B.notSynchronized
  have hin : meth.name = "<init>" := (name_of_methodNamed B.named B.method).1
  subst hsz
  have hD := hD0.self (sz := s.heap.size)
  generalize hAe : va_A [(a, .inr (6, [.int 0, .null, .int 0, .null, .null, .int 0]))] s.heap.size = A at hD ⊢
  have hA : ∀ q : Nat, s.heap.size ≤ q → A q := fun q h => by rw [← hAe]; exact Or.inr h
  have hS : va_S A s.heap s.heap [] := va_S.rf
  have hP : va_P E.1 vwCl [(a, .inr (6, [.int 0, .null, .int 0, .null, .null, .int 0]))] s.heap := hP
  have hl := lv_entry ([.ref a, .int x]) (n := 2) (Nat.le_of_ble_eq_true rfl)
  rw [lg_entry_eq]
  generalize (lg_sl ([.ref a, .int x]) ++ List.replicate (2 - (lg_sl ([.ref a, .int x])).length) Slot.unset).toArray = ls at hl ⊢
  have hl : lv_has ls 2 [(0, .ref a), (1, .int x)] := hl
  refine lv_aload_n hx hb dX4_init_0 rfl (lv_at hl 0 rfl) ?_
  refine W.objInit hx hb hown (hts (.methodLink RX4 3 objectInit) (by decide +kernel)) (hts (.instanceMethod objectInit) (by decide +kernel)) (hts (.code objectInit ⟨#[0xb1]⟩ 1 none) (by decide +kernel)) rfl (by rw [hml]; exact hl.1) rfl dX4_init_1 (Nat.le_of_ble_eq_true rfl) (Nat.le_of_ble_eq_true rfl) ?_
  refine W.eq (g2 := F0 m 4 ls []) rfl ?_
  refine lv_aload_n hx hb dX4_init_4 rfl (lv_at hl 0 rfl) ?_
  refine zb_bipush (n := 10) hx hb dX4_init_5 (by decide) ?_
  refine va_newq (N' := 10) (C := RX2) hx hb hown (hts (.classLink RX4 9 RX2) (by decide +kernel)) (hN.2 RX2 (by simp)) hK hP hD hS hA (nI_pos (by decide)) (nI_clamp (by decide)) (Nat.le_of_ble_eq_true rfl) (Nat.le_of_ble_eq_true rfl) (Nat.le_of_ble_eq_true rfl) dX4_init_7 (fun q7 cA H hK9 hP hD hS => ?_)
  have cE : cA = E.2 3 := by
    obtain ⟨-, -, -, -, -, c1⟩ := (hK9.2 7 _ rfl).2
    obtain ⟨-, -, -, -, -, c2⟩ := (hK.2 3 _ rfl).2
    exact Option.some.inj (c1.symm.trans c2)
  subst cE
  have hP : va_P E.1 vwCl [(a, .inr (6, [.int 0, .null, .int 0, .null, .null, .int 0])), (q7, .inl (E.2 3, 10, .inr (.inr (.inr (.inr (fun _ => none))))))] H := hP
  have hD : va_D A [(a, .inr (6, [.int 0, .null, .int 0, .null, .null, .int 0])), (q7, .inl (E.2 3, 10, .inr (.inr (.inr (.inr (fun _ => none))))))] := hD
  refine W.widen (k := 1) (n := 10) (Nat.le_of_ble_eq_true rfl) (Nat.le_of_ble_eq_true rfl) ?_
  refine va_putF (D := E.1) (ci := 6) (v := .ref q7) (ty := .array (.object "VideoBridge$Person")) (C := RX4) (T := TX4) (N := 6) hx hb hts (by decide +kernel) tyX4 tyX4_ok nmX4 hown hK hP hD hS 0 rfl rfl 1 (by decide) (hts (.fieldLink RX4 11 "VideoBridge$Room" "order" "[LVideoBridge$Person;") (by decide +kernel)) (fun _ h9 => h9) rfl hin rfl (by decide +kernel) rfl rfl (Nat.le_of_ble_eq_true rfl) dX4_init_10 (fun H locs hP hD hS => ?_)
  have hP : va_P E.1 vwCl [(a, .inr (6, [.int 0, .ref q7, .int 0, .null, .null, .int 0])), (q7, .inl (E.2 3, 10, .inr (.inr (.inr (.inr (fun _ => none))))))] H := hP
  have hD : va_D A [(a, .inr (6, [.int 0, .ref q7, .int 0, .null, .null, .int 0])), (q7, .inl (E.2 3, 10, .inr (.inr (.inr (.inr (fun _ => none))))))] := hD
  refine lv_aload_n hx hb dX4_init_13 rfl (lv_at hl 0 rfl) ?_
  refine lv_iload_n hx hb dX4_init_14 rfl (lv_at hl 1 rfl) ?_
  refine va_putF (D := E.1) (ci := 6) (v := .int x) (ty := .int) (C := RX4) (T := TX4) (N := 6) hx hb hts (by decide +kernel) tyX4 tyX4_ok nmX4 hown hK hP hD hS 0 rfl rfl 0 (by decide) (hts (.fieldLink RX4 17 "VideoBridge$Room" "number" "I") (by decide +kernel)) (fun _ h9 => h9) rfl hin rfl (by decide +kernel) rfl rfl (Nat.le_of_ble_eq_true rfl) dX4_init_15 (fun H locs hP hD hS => ?_)
  have hP : va_P E.1 vwCl [(a, .inr (6, [.int x, .ref q7, .int 0, .null, .null, .int 0])), (q7, .inl (E.2 3, 10, .inr (.inr (.inr (.inr (fun _ => none))))))] H := hP
  have hD : va_D A [(a, .inr (6, [.int x, .ref q7, .int 0, .null, .null, .int 0])), (q7, .inl (E.2 3, 10, .inr (.inr (.inr (.inr (fun _ => none))))))] := hD
  have hP9 := hP.sub (ws' := [(a, .inr (6, [.int x, .ref q7, .int 0, .null, .null, .int 0])), (q7, .inl (E.2 3, 10, .inr (.inr (.inr (.inr (fun _ => none))))))]) [0, 1] rfl
  have hD9 := hD.sub (ws' := [(a, .inr (6, [.int x, .ref q7, .int 0, .null, .null, .int 0])), (q7, .inl (E.2 3, 10, .inr (.inr (.inr (.inr (fun _ => none))))))]) [0, 1] (by decide) rfl
  exact W.vret hx hb hr (fun t ht hW => ⟨⟨(), rfl, trivial, q7, by rw [ht]; exact hP9, hD9⟩, hS.F ht⟩) hS.2.2 dX4_init_18 hlocks

set_option maxRecDepth 100000 in
set_option maxHeartbeats 4000000 in
theorem k_X3_init (l : Launch) {E : za_E} (a sz : Nat) (r : Nat) : Met l yX3_init wsX3_init ({ frames := 2, cells := 2, slots := 19, locals := 33 } : Room) (zk_Pc E [.ref a, .ref r] [(a, .inr (5, [.null, .null, .int 0]))] sz [])
    (va_Qv (S := Unit) (fun _ => True) (fun _ t => ∃ q5, ∃ q5_0, va_P E.1 vwCl [(a, .inr (5, [.ref q5, .ref r, .int 0])), (q5, .inr (7, [.int (nI 2000), .ref q5_0, .int 0])), (q5_0, .inl (E.2 0, 16, .inl (fun _ => 0)))] t.heap ∧ va_D (va_A [(a, .inr (5, [.null, .null, .int 0]))] sz) [(a, .inr (5, [.ref q5, .ref r, .int 0])), (q5, .inr (7, [.int (nI 2000), .ref q5_0, .int 0])), (q5_0, .inl (E.2 0, 16, .inl (fun _ => 0)))]) (va_A [(a, .inr (5, [.null, .null, .int 0]))] sz)) 2 19 (va_A [(a, .inr (5, [.null, .null, .int 0]))] sz) := by
  refine Met.ofW (cc := cX3_init) (maxL := 2) (ret := none) (by decide) rfl ?_
  intro p e s m args below meth c s₁ B hml hv
  obtain ⟨rfl, hsz, hP, hK, hN, hD0⟩ := hv
  have hx := B.exec
  have hb := B.bytes
  have hr := B.returns
  have hts := atoms_spec (ws := wsX3_init) B.pre
  have hown : s.vm.findClass RX3 = some m.cls := findClass_of_methodNamed B.named
  have hlocks := B.notSynchronized
  have hin : meth.name = "<init>" := (name_of_methodNamed B.named B.method).1
  subst hsz
  have hD := hD0.self (sz := s.heap.size)
  generalize hAe : va_A [(a, .inr (5, [.null, .null, .int 0]))] s.heap.size = A at hD ⊢
  have hA : ∀ q : Nat, s.heap.size ≤ q → A q := fun q h => by rw [← hAe]; exact Or.inr h
  have hS : va_S A s.heap s.heap [] := va_S.rf
  have hP : va_P E.1 vwCl [(a, .inr (5, [.null, .null, .int 0]))] s.heap := hP
  have hl := lv_entry ([.ref a, .ref r]) (n := 2) (Nat.le_of_ble_eq_true rfl)
  rw [lg_entry_eq]
  generalize (lg_sl ([.ref a, .ref r]) ++ List.replicate (2 - (lg_sl ([.ref a, .ref r])).length) Slot.unset).toArray = ls at hl ⊢
  have hl : lv_has ls 2 [(0, .ref a), (1, .ref r)] := hl
  refine lv_aload_n hx hb dX3_init_0 rfl (lv_at hl 0 rfl) ?_
  refine W.objInit hx hb hown (hts (.methodLink RX3 3 objectInit) (by decide +kernel)) (hts (.instanceMethod objectInit) (by decide +kernel)) (hts (.code objectInit ⟨#[0xb1]⟩ 1 none) (by decide +kernel)) rfl (by rw [hml]; exact hl.1) rfl dX3_init_1 (Nat.le_of_ble_eq_true rfl) (Nat.le_of_ble_eq_true rfl) ?_
  refine W.eq (g2 := F0 m 4 ls []) rfl ?_
  refine lv_aload_n hx hb dX3_init_4 rfl (lv_at hl 0 rfl) ?_
  refine va_new (ci := 7) (fs := [.int 0, .null, .int 0]) (C := RX5) (T := TX5) (N := 3) hx hb hts (by decide +kernel) tyX5 tyX5_ok hown (hts (.classLink RX3 9 RX5) (by decide +kernel)) (hts (.instantiable RX5 3) (by decide +kernel)) (hts (.initialized RX5) (by decide +kernel)) hK hP hD hS hA rfl (fun j hj => by rcases (show j = 0 ∨ j = 1 ∨ j = 2 by omega) with rfl | rfl | rfl <;> rfl) (Nat.le_of_ble_eq_true rfl) (Nat.le_of_ble_eq_true rfl) dX3_init_5 (fun q5 H hP hD hS => ?_)
  have hP : va_P E.1 vwCl [(a, .inr (5, [.null, .null, .int 0])), (q5, .inr (7, [.int 0, .null, .int 0]))] H := hP
  have hD : va_D A [(a, .inr (5, [.null, .null, .int 0])), (q5, .inr (7, [.int 0, .null, .int 0]))] := hD
  refine W.widen (k := 1) (n := 3) (Nat.le_of_ble_eq_true rfl) (Nat.le_of_ble_eq_true rfl) ?_
  refine lv_dup hx hb dX3_init_8 rfl ?_
  refine zb_sipush (n := 2000) hx hb dX3_init_9 (by decide) ?_
  have hPc := hP.sub (ws' := [(q5, .inr (7, [.int 0, .null, .int 0]))]) [1] rfl
  have hDc := hD.sub (ws' := [(q5, .inr (7, [.int 0, .null, .int 0]))]) [1] (by decide) rfl
  have hFc := va_free (wc := [(q5, .inr (7, [.int 0, .null, .int 0]))]) hD hS hA [1] rfl
  refine va_callv (va_runI (As := [.int (nI 2000)]) (rest := [.ref q5, .ref a]) ⟨hx, hb, hml, hown, hts⟩ (k_X5_init l (E := E) q5 H.size (nI 2000)) (cwI 1 hts gX3_init_X5_init rfl rfl rfl (hts (.initialized RX5) (by decide +kernel)) (hts (.methodLink RX3 11 yX5_init) (by decide +kernel)) (hts (.instanceMethod yX5_init) (by decide +kernel)) rfl (by decide +kernel) ⟨Nat.le_of_ble_eq_true rfl, Nat.le_of_ble_eq_true rfl⟩) ⟨zk_blind, fun U hU hW => ⟨rfl, by rw [hU], by rw [hU]; exact hPc, va_K.moved hW.alike hK, hN.warm hW (by simp), hDc.weaken (fun _ _ _ _ => trivial)⟩⟩ rfl rfl hl.1 rfl (lv_room (Nat.le_of_ble_eq_true rfl)) dX3_init_12 ⟨Nat.le_of_ble_eq_true rfl, Nat.le_of_ble_eq_true rfl⟩) hS (fun q _ h => hFc q h) hFc (fun u t H1 locs ht hvm hw hB hz1 hk1 hS => ?_)
  obtain ⟨q5_0, hP1, hD1⟩ := hB
  rw [ht] at hP1
  obtain ⟨hP, hD⟩ := va_join (wr := [(a, .inr (5, [.null, .null, .int 0]))]) (w1 := [(q5, .inr (7, [.int (nI 2000), .ref q5_0, .int 0])), (q5_0, .inl (E.2 0, 16, .inl (fun _ => 0)))]) hP hD [1] [0] rfl rfl (by decide) (by decide) hk1 hFc hP1 hD1
  generalize H1 = H at hP hS ⊢
  have hP : va_P E.1 vwCl [(a, .inr (5, [.null, .null, .int 0])), (q5, .inr (7, [.int (nI 2000), .ref q5_0, .int 0])), (q5_0, .inl (E.2 0, 16, .inl (fun _ => 0)))] H := hP
  have hD : va_D A [(a, .inr (5, [.null, .null, .int 0])), (q5, .inr (7, [.int (nI 2000), .ref q5_0, .int 0])), (q5_0, .inl (E.2 0, 16, .inl (fun _ => 0)))] := hD
  refine W.widen (k := 2) (n := 19) (Nat.le_of_ble_eq_true rfl) (Nat.le_of_ble_eq_true rfl) ?_
  refine va_putF (D := E.1) (ci := 5) (v := .ref q5) (ty := .object "VideoBridge$Row") (C := RX3) (T := TX3) (N := 3) hx hb hts (by decide +kernel) tyX3 tyX3_ok nmX3 hown hK hP hD hS 0 rfl rfl 0 (by decide) (hts (.fieldLink RX3 14 "VideoBridge$Recorder" "notes" "LVideoBridge$Row;") (by decide +kernel)) (fun _ h9 => h9) rfl hin rfl (by decide +kernel) rfl rfl (Nat.le_of_ble_eq_true rfl) dX3_init_15 (fun H locs hP hD hS => ?_)
  have hP : va_P E.1 vwCl [(a, .inr (5, [.ref q5, .null, .int 0])), (q5, .inr (7, [.int (nI 2000), .ref q5_0, .int 0])), (q5_0, .inl (E.2 0, 16, .inl (fun _ => 0)))] H := hP
  have hD : va_D A [(a, .inr (5, [.ref q5, .null, .int 0])), (q5, .inr (7, [.int (nI 2000), .ref q5_0, .int 0])), (q5_0, .inl (E.2 0, 16, .inl (fun _ => 0)))] := hD
  refine lv_aload_n hx hb dX3_init_18 rfl (lv_at hl 0 rfl) ?_
  refine lv_aload_n hx hb dX3_init_19 rfl (lv_at hl 1 rfl) ?_
  refine va_put (D := E.1) (ci := 5) (v := .ref r) (ty := .object "VideoBridge$Room") (C := RX3) (T := TX3) (N := 3) hx hb hts (by decide +kernel) tyX3 tyX3_ok nmX3 hown hK hP hD hS 0 rfl rfl 1 (by decide) (hts (.fieldLink RX3 20 "VideoBridge$Recorder" "followed" "LVideoBridge$Room;") (by decide +kernel)) (fun _ h9 => h9) rfl (by decide +kernel) rfl rfl (Nat.le_of_ble_eq_true rfl) dX3_init_20 (fun H locs hP hD hS => ?_)
  have hP : va_P E.1 vwCl [(a, .inr (5, [.ref q5, .ref r, .int 0])), (q5, .inr (7, [.int (nI 2000), .ref q5_0, .int 0])), (q5_0, .inl (E.2 0, 16, .inl (fun _ => 0)))] H := hP
  have hD : va_D A [(a, .inr (5, [.ref q5, .ref r, .int 0])), (q5, .inr (7, [.int (nI 2000), .ref q5_0, .int 0])), (q5_0, .inl (E.2 0, 16, .inl (fun _ => 0)))] := hD
  have hP9 := hP.sub (ws' := [(a, .inr (5, [.ref q5, .ref r, .int 0])), (q5, .inr (7, [.int (nI 2000), .ref q5_0, .int 0])), (q5_0, .inl (E.2 0, 16, .inl (fun _ => 0)))]) [0, 1, 2] rfl
  have hD9 := hD.sub (ws' := [(a, .inr (5, [.ref q5, .ref r, .int 0])), (q5, .inr (7, [.int (nI 2000), .ref q5_0, .int 0])), (q5_0, .inl (E.2 0, 16, .inl (fun _ => 0)))]) [0, 1, 2] (by decide) rfl
  exact W.vret hx hb hr (fun t ht hW => ⟨⟨(), rfl, trivial, q5, q5_0, by rw [ht]; exact hP9, hD9⟩, hS.F ht⟩) hS.2.2 dX3_init_23 hlocks

set_option maxRecDepth 100000 in
set_option maxHeartbeats 4000000 in
theorem k_X0_init (l : Launch) {E : za_E} (a sz : Nat) : Met l yX0_init wsX0_init ({ frames := 2, cells := 3, slots := 21, locals := 32 } : Room) (zk_Pc E [.ref a] [(a, .inr (2, [.null, .null, .int 0, .int 0]))] sz [RX2])
    (va_Qv (S := Unit) (fun _ => True) (fun _ t => ∃ q5, ∃ q5_0, ∃ q18, va_P E.1 vwCl [(a, .inr (2, [.ref q5, .ref q18, .int 0, .int 0])), (q5, .inr (3, [.ref q5_0])), (q5_0, .inl (E.2 0, 10, .inl (fun _ => 0))), (q18, .inl (E.2 3, 10, .inr (.inr (.inr (.inr (fun _ => none))))))] t.heap ∧ va_D (va_A [(a, .inr (2, [.null, .null, .int 0, .int 0]))] sz) [(a, .inr (2, [.ref q5, .ref q18, .int 0, .int 0])), (q5, .inr (3, [.ref q5_0])), (q5_0, .inl (E.2 0, 10, .inl (fun _ => 0))), (q18, .inl (E.2 3, 10, .inr (.inr (.inr (.inr (fun _ => none))))))]) (va_A [(a, .inr (2, [.null, .null, .int 0, .int 0]))] sz)) 3 21 (va_A [(a, .inr (2, [.null, .null, .int 0, .int 0]))] sz) := by
  refine Met.ofW (cc := cX0_init) (maxL := 1) (ret := none) (by decide) rfl ?_
  intro p e s m args below meth c s₁ B hml hv
  obtain ⟨rfl, hsz, hP, hK, hN, hD0⟩ := hv
  have hx := B.exec
  have hb := B.bytes
  have hr := B.returns
  have hts := atoms_spec (ws := wsX0_init) B.pre
  have hown : s.vm.findClass RX0 = some m.cls := findClass_of_methodNamed B.named
  have hlocks := B.notSynchronized
  have hin : meth.name = "<init>" := (name_of_methodNamed B.named B.method).1
  subst hsz
  have hD := hD0.self (sz := s.heap.size)
  generalize hAe : va_A [(a, .inr (2, [.null, .null, .int 0, .int 0]))] s.heap.size = A at hD ⊢
  have hA : ∀ q : Nat, s.heap.size ≤ q → A q := fun q h => by rw [← hAe]; exact Or.inr h
  have hS : va_S A s.heap s.heap [] := va_S.rf
  have hP : va_P E.1 vwCl [(a, .inr (2, [.null, .null, .int 0, .int 0]))] s.heap := hP
  have hl := lv_entry ([.ref a]) (n := 1) (Nat.le_of_ble_eq_true rfl)
  rw [lg_entry_eq]
  generalize (lg_sl ([.ref a]) ++ List.replicate (1 - (lg_sl ([.ref a])).length) Slot.unset).toArray = ls at hl ⊢
  have hl : lv_has ls 1 [(0, .ref a)] := hl
  refine lv_aload_n hx hb dX0_init_0 rfl (lv_at hl 0 rfl) ?_
  refine W.objInit hx hb hown (hts (.methodLink RX0 3 objectInit) (by decide +kernel)) (hts (.instanceMethod objectInit) (by decide +kernel)) (hts (.code objectInit ⟨#[0xb1]⟩ 1 none) (by decide +kernel)) rfl (by rw [hml]; exact hl.1) rfl dX0_init_1 (Nat.le_of_ble_eq_true rfl) (Nat.le_of_ble_eq_true rfl) ?_
  refine W.eq (g2 := F0 m 4 ls []) rfl ?_
  refine lv_aload_n hx hb dX0_init_4 rfl (lv_at hl 0 rfl) ?_
  refine va_new (ci := 3) (fs := [.null]) (C := RX1) (T := TX1) (N := 1) hx hb hts (by decide +kernel) tyX1 tyX1_ok hown (hts (.classLink RX0 9 RX1) (by decide +kernel)) (hts (.instantiable RX1 1) (by decide +kernel)) (hts (.initialized RX1) (by decide +kernel)) hK hP hD hS hA rfl (fun j hj => by rcases (show j = 0 by omega) with rfl <;> rfl) (Nat.le_of_ble_eq_true rfl) (Nat.le_of_ble_eq_true rfl) dX0_init_5 (fun q5 H hP hD hS => ?_)
  have hP : va_P E.1 vwCl [(a, .inr (2, [.null, .null, .int 0, .int 0])), (q5, .inr (3, [.null]))] H := hP
  have hD : va_D A [(a, .inr (2, [.null, .null, .int 0, .int 0])), (q5, .inr (3, [.null]))] := hD
  refine W.widen (k := 1) (n := 1) (Nat.le_of_ble_eq_true rfl) (Nat.le_of_ble_eq_true rfl) ?_
  refine lv_dup hx hb dX0_init_8 rfl ?_
  have hPc := hP.sub (ws' := [(q5, .inr (3, [.null]))]) [1] rfl
  have hDc := hD.sub (ws' := [(q5, .inr (3, [.null]))]) [1] (by decide) rfl
  have hFc := va_free (wc := [(q5, .inr (3, [.null]))]) hD hS hA [1] rfl
  refine va_callv (va_runIN (As := []) (rest := [.ref q5, .ref a]) ⟨hx, hb, hml, hown, hts⟩ (k_X1_init l (E := E) q5 H.size) ⟨va_cnB (host := RX6) 0 hts gX0_init_X1_init_n11 rfl rfl rfl (hN.1 (RX0, 11, yX1_init) (by simp [za_nests])) (hts (.initialized RX1) (by decide +kernel)) (by decide +kernel) ⟨Nat.le_of_ble_eq_true rfl, Nat.le_of_ble_eq_true rfl⟩, rfl, hts (.instanceMethod yX1_init) (by decide +kernel)⟩ ⟨zk_blind, fun U hU hW => ⟨rfl, by rw [hU], by rw [hU]; exact hPc, va_K.moved hW.alike hK, hN.warm hW (by simp), hDc.weaken (fun _ _ _ _ => trivial)⟩⟩ rfl rfl hl.1 rfl (lv_room (Nat.le_of_ble_eq_true rfl)) dX0_init_9 ⟨Nat.le_of_ble_eq_true rfl, Nat.le_of_ble_eq_true rfl⟩) hS (fun q _ h => hFc q h) hFc (fun u t H1 locs ht hvm hw hB hz1 hk1 hS => ?_)
  obtain ⟨q5_0, hP1, hD1⟩ := hB
  rw [ht] at hP1
  obtain ⟨hP, hD⟩ := va_join (wr := [(a, .inr (2, [.null, .null, .int 0, .int 0]))]) (w1 := [(q5, .inr (3, [.ref q5_0])), (q5_0, .inl (E.2 0, 10, .inl (fun _ => 0)))]) hP hD [1] [0] rfl rfl (by decide) (by decide) hk1 hFc hP1 hD1
  generalize H1 = H at hP hS ⊢
  have hP : va_P E.1 vwCl [(a, .inr (2, [.null, .null, .int 0, .int 0])), (q5, .inr (3, [.ref q5_0])), (q5_0, .inl (E.2 0, 10, .inl (fun _ => 0)))] H := hP
  have hD : va_D A [(a, .inr (2, [.null, .null, .int 0, .int 0])), (q5, .inr (3, [.ref q5_0])), (q5_0, .inl (E.2 0, 10, .inl (fun _ => 0)))] := hD
  refine W.widen (k := 2) (n := 11) (Nat.le_of_ble_eq_true rfl) (Nat.le_of_ble_eq_true rfl) ?_
  refine va_putF (D := E.1) (ci := 2) (v := .ref q5) (ty := .object "VideoBridge$Layers") (C := RX0) (T := TX0) (N := 4) hx hb hts (by decide +kernel) tyX0 tyX0_ok nmX0 hown hK hP hD hS 0 rfl rfl 0 (by decide) (hts (.fieldLink RX0 12 "VideoBridge$Chooser" "chosen" "LVideoBridge$Layers;") (by decide +kernel)) (fun _ h9 => h9) rfl hin rfl (by decide +kernel) rfl rfl (Nat.le_of_ble_eq_true rfl) dX0_init_12 (fun H locs hP hD hS => ?_)
  have hP : va_P E.1 vwCl [(a, .inr (2, [.ref q5, .null, .int 0, .int 0])), (q5, .inr (3, [.ref q5_0])), (q5_0, .inl (E.2 0, 10, .inl (fun _ => 0)))] H := hP
  have hD : va_D A [(a, .inr (2, [.ref q5, .null, .int 0, .int 0])), (q5, .inr (3, [.ref q5_0])), (q5_0, .inl (E.2 0, 10, .inl (fun _ => 0)))] := hD
  refine lv_aload_n hx hb dX0_init_15 rfl (lv_at hl 0 rfl) ?_
  refine zb_bipush (n := 10) hx hb dX0_init_16 (by decide) ?_
  refine va_newq (N' := 10) (C := RX2) hx hb hown (hts (.classLink RX0 18 RX2) (by decide +kernel)) (hN.2 RX2 (by simp)) hK hP hD hS hA (nI_pos (by decide)) (nI_clamp (by decide)) (Nat.le_of_ble_eq_true rfl) (Nat.le_of_ble_eq_true rfl) (Nat.le_of_ble_eq_true rfl) dX0_init_18 (fun q18 cA H hK9 hP hD hS => ?_)
  have cE : cA = E.2 3 := by
    obtain ⟨-, -, -, -, -, c1⟩ := (hK9.2 7 _ rfl).2
    obtain ⟨-, -, -, -, -, c2⟩ := (hK.2 3 _ rfl).2
    exact Option.some.inj (c1.symm.trans c2)
  subst cE
  have hP : va_P E.1 vwCl [(a, .inr (2, [.ref q5, .null, .int 0, .int 0])), (q5, .inr (3, [.ref q5_0])), (q5_0, .inl (E.2 0, 10, .inl (fun _ => 0))), (q18, .inl (E.2 3, 10, .inr (.inr (.inr (.inr (fun _ => none))))))] H := hP
  have hD : va_D A [(a, .inr (2, [.ref q5, .null, .int 0, .int 0])), (q5, .inr (3, [.ref q5_0])), (q5_0, .inl (E.2 0, 10, .inl (fun _ => 0))), (q18, .inl (E.2 3, 10, .inr (.inr (.inr (.inr (fun _ => none))))))] := hD
  refine W.widen (k := 3) (n := 21) (Nat.le_of_ble_eq_true rfl) (Nat.le_of_ble_eq_true rfl) ?_
  refine va_putF (D := E.1) (ci := 2) (v := .ref q18) (ty := .array (.object "VideoBridge$Person")) (C := RX0) (T := TX0) (N := 4) hx hb hts (by decide +kernel) tyX0 tyX0_ok nmX0 hown hK hP hD hS 0 rfl rfl 1 (by decide) (hts (.fieldLink RX0 20 "VideoBridge$Chooser" "line" "[LVideoBridge$Person;") (by decide +kernel)) (fun _ h9 => h9) rfl hin rfl (by decide +kernel) rfl rfl (Nat.le_of_ble_eq_true rfl) dX0_init_21 (fun H locs hP hD hS => ?_)
  have hP : va_P E.1 vwCl [(a, .inr (2, [.ref q5, .ref q18, .int 0, .int 0])), (q5, .inr (3, [.ref q5_0])), (q5_0, .inl (E.2 0, 10, .inl (fun _ => 0))), (q18, .inl (E.2 3, 10, .inr (.inr (.inr (.inr (fun _ => none))))))] H := hP
  have hD : va_D A [(a, .inr (2, [.ref q5, .ref q18, .int 0, .int 0])), (q5, .inr (3, [.ref q5_0])), (q5_0, .inl (E.2 0, 10, .inl (fun _ => 0))), (q18, .inl (E.2 3, 10, .inr (.inr (.inr (.inr (fun _ => none))))))] := hD
  have hP9 := hP.sub (ws' := [(a, .inr (2, [.ref q5, .ref q18, .int 0, .int 0])), (q5, .inr (3, [.ref q5_0])), (q5_0, .inl (E.2 0, 10, .inl (fun _ => 0))), (q18, .inl (E.2 3, 10, .inr (.inr (.inr (.inr (fun _ => none))))))]) [0, 1, 2, 3] rfl
  have hD9 := hD.sub (ws' := [(a, .inr (2, [.ref q5, .ref q18, .int 0, .int 0])), (q5, .inr (3, [.ref q5_0])), (q5_0, .inl (E.2 0, 10, .inl (fun _ => 0))), (q18, .inl (E.2 3, 10, .inr (.inr (.inr (.inr (fun _ => none))))))]) [0, 1, 2, 3] (by decide) rfl
  exact W.vret hx hb hr (fun t ht hW => ⟨⟨(), rfl, trivial, q5, q5_0, q18, by rw [ht]; exact hP9, hD9⟩, hS.F ht⟩) hS.2.2 dX0_init_24 hlocks

set_option maxRecDepth 100000 in
set_option maxHeartbeats 4000000 in
theorem k_X6_init (l : Launch) {E : za_E} (a sz : Nat) : Met l yX6_init wsX6_init ({ frames := 3, cells := 9, slots := 68, locals := 52 } : Room) (zk_Pc E [.ref a] [(a, .inr (8, [.null, .null, .null, .null, .null, .int 0, .int 0, .int 0, .int 0, .long 0, .long 0]))] sz [RX2, RX4, RX3])
    (va_Qv (S := Unit) (fun _ => True) (fun _ t => ∃ q7, ∃ q16, ∃ q25, ∃ q32, ∃ q32_0, ∃ q46, ∃ q46_0, ∃ q46_1, ∃ q46_2, va_P E.1 vwCl [(a, .inr (8, [.ref q7, .ref q16, .ref q25, .ref q32, .ref q46, .int 0, .int 0, .int 0, .int 0, .long 0, .long 0])), (q7, .inl (E.2 3, 10, .inr (.inr (.inr (.inr (fun _ => none)))))), (q16, .inl (E.2 5, 6, .inr (.inr (.inr (.inr (fun _ => none)))))), (q25, .inl (E.2 4, 8, .inr (.inr (.inr (.inr (fun _ => none)))))), (q32, .inr (7, [.int (nI 12000), .ref q32_0, .int 0])), (q32_0, .inl (E.2 0, 16, .inl (fun _ => 0))), (q46, .inr (2, [.ref q46_0, .ref q46_2, .int 0, .int 0])), (q46_0, .inr (3, [.ref q46_1])), (q46_1, .inl (E.2 0, 10, .inl (fun _ => 0))), (q46_2, .inl (E.2 3, 10, .inr (.inr (.inr (.inr (fun _ => none))))))] t.heap ∧ va_D (va_A [(a, .inr (8, [.null, .null, .null, .null, .null, .int 0, .int 0, .int 0, .int 0, .long 0, .long 0]))] sz) [(a, .inr (8, [.ref q7, .ref q16, .ref q25, .ref q32, .ref q46, .int 0, .int 0, .int 0, .int 0, .long 0, .long 0])), (q7, .inl (E.2 3, 10, .inr (.inr (.inr (.inr (fun _ => none)))))), (q16, .inl (E.2 5, 6, .inr (.inr (.inr (.inr (fun _ => none)))))), (q25, .inl (E.2 4, 8, .inr (.inr (.inr (.inr (fun _ => none)))))), (q32, .inr (7, [.int (nI 12000), .ref q32_0, .int 0])), (q32_0, .inl (E.2 0, 16, .inl (fun _ => 0))), (q46, .inr (2, [.ref q46_0, .ref q46_2, .int 0, .int 0])), (q46_0, .inr (3, [.ref q46_1])), (q46_1, .inl (E.2 0, 10, .inl (fun _ => 0))), (q46_2, .inl (E.2 3, 10, .inr (.inr (.inr (.inr (fun _ => none))))))]) (va_A [(a, .inr (8, [.null, .null, .null, .null, .null, .int 0, .int 0, .int 0, .int 0, .long 0, .long 0]))] sz)) 9 68 (va_A [(a, .inr (8, [.null, .null, .null, .null, .null, .int 0, .int 0, .int 0, .int 0, .long 0, .long 0]))] sz) := by
  refine Met.ofW (cc := cX6_init) (maxL := 1) (ret := none) (by decide) rfl ?_
  intro p e s m args below meth c s₁ B hml hv
  obtain ⟨rfl, hsz, hP, hK, hN, hD0⟩ := hv
  have hx := B.exec
  have hb := B.bytes
  have hr := B.returns
  have hts := atoms_spec (ws := wsX6_init) B.pre
  have hown : s.vm.findClass RX6 = some m.cls := findClass_of_methodNamed B.named
  have hlocks := B.notSynchronized
  have hin : meth.name = "<init>" := (name_of_methodNamed B.named B.method).1
  subst hsz
  have hD := hD0.self (sz := s.heap.size)
  generalize hAe : va_A [(a, .inr (8, [.null, .null, .null, .null, .null, .int 0, .int 0, .int 0, .int 0, .long 0, .long 0]))] s.heap.size = A at hD ⊢
  have hA : ∀ q : Nat, s.heap.size ≤ q → A q := fun q h => by rw [← hAe]; exact Or.inr h
  have hS : va_S A s.heap s.heap [] := va_S.rf
  have hP : va_P E.1 vwCl [(a, .inr (8, [.null, .null, .null, .null, .null, .int 0, .int 0, .int 0, .int 0, .long 0, .long 0]))] s.heap := hP
  have hl := lv_entry ([.ref a]) (n := 1) (Nat.le_of_ble_eq_true rfl)
  rw [lg_entry_eq]
  generalize (lg_sl ([.ref a]) ++ List.replicate (1 - (lg_sl ([.ref a])).length) Slot.unset).toArray = ls at hl ⊢
  have hl : lv_has ls 1 [(0, .ref a)] := hl
  refine lv_aload_n hx hb dX6_init_0 rfl (lv_at hl 0 rfl) ?_
  refine W.objInit hx hb hown (hts (.methodLink RX6 1 objectInit) (by decide +kernel)) (hts (.instanceMethod objectInit) (by decide +kernel)) (hts (.code objectInit ⟨#[0xb1]⟩ 1 none) (by decide +kernel)) rfl (by rw [hml]; exact hl.1) rfl dX6_init_1 (Nat.le_of_ble_eq_true rfl) (Nat.le_of_ble_eq_true rfl) ?_
  refine W.eq (g2 := F0 m 4 ls []) rfl ?_
  refine lv_aload_n hx hb dX6_init_4 rfl (lv_at hl 0 rfl) ?_
  refine zb_bipush (n := 10) hx hb dX6_init_5 (by decide) ?_
  refine va_newq (N' := 10) (C := RX2) hx hb hown (hts (.classLink RX6 9 RX2) (by decide +kernel)) (hN.2 RX2 (by simp)) hK hP hD hS hA (nI_pos (by decide)) (nI_clamp (by decide)) (Nat.le_of_ble_eq_true rfl) (Nat.le_of_ble_eq_true rfl) (Nat.le_of_ble_eq_true rfl) dX6_init_7 (fun q7 cA H hK9 hP hD hS => ?_)
  have cE : cA = E.2 3 := by
    obtain ⟨-, -, -, -, -, c1⟩ := (hK9.2 7 _ rfl).2
    obtain ⟨-, -, -, -, -, c2⟩ := (hK.2 3 _ rfl).2
    exact Option.some.inj (c1.symm.trans c2)
  subst cE
  have hP : va_P E.1 vwCl [(a, .inr (8, [.null, .null, .null, .null, .null, .int 0, .int 0, .int 0, .int 0, .long 0, .long 0])), (q7, .inl (E.2 3, 10, .inr (.inr (.inr (.inr (fun _ => none))))))] H := hP
  have hD : va_D A [(a, .inr (8, [.null, .null, .null, .null, .null, .int 0, .int 0, .int 0, .int 0, .long 0, .long 0])), (q7, .inl (E.2 3, 10, .inr (.inr (.inr (.inr (fun _ => none))))))] := hD
  refine W.widen (k := 1) (n := 10) (Nat.le_of_ble_eq_true rfl) (Nat.le_of_ble_eq_true rfl) ?_
  refine va_putF (D := E.1) (ci := 8) (v := .ref q7) (ty := .array (.object "VideoBridge$Person")) (C := RX6) (T := TX6) (N := 11) hx hb hts (by decide +kernel) tyX6 tyX6_ok nmX6 hown hK hP hD hS 0 rfl rfl 0 (by decide) (hts (.fieldLink RX6 11 "VideoBridge" "everybody" "[LVideoBridge$Person;") (by decide +kernel)) (fun _ h9 => h9) rfl hin rfl (by decide +kernel) rfl rfl (Nat.le_of_ble_eq_true rfl) dX6_init_10 (fun H locs hP hD hS => ?_)
  have hP : va_P E.1 vwCl [(a, .inr (8, [.ref q7, .null, .null, .null, .null, .int 0, .int 0, .int 0, .int 0, .long 0, .long 0])), (q7, .inl (E.2 3, 10, .inr (.inr (.inr (.inr (fun _ => none))))))] H := hP
  have hD : va_D A [(a, .inr (8, [.ref q7, .null, .null, .null, .null, .int 0, .int 0, .int 0, .int 0, .long 0, .long 0])), (q7, .inl (E.2 3, 10, .inr (.inr (.inr (.inr (fun _ => none))))))] := hD
  refine lv_aload_n hx hb dX6_init_13 rfl (lv_at hl 0 rfl) ?_
  refine zb_bipush (n := 6) hx hb dX6_init_14 (by decide) ?_
  refine va_newq (N' := 6) (C := RX4) hx hb hown (hts (.classLink RX6 15 RX4) (by decide +kernel)) (hN.2 RX4 (by simp)) hK hP hD hS hA (nI_pos (by decide)) (nI_clamp (by decide)) (Nat.le_of_ble_eq_true rfl) (Nat.le_of_ble_eq_true rfl) (Nat.le_of_ble_eq_true rfl) dX6_init_16 (fun q16 cA H hK9 hP hD hS => ?_)
  have cE : cA = E.2 5 := by
    obtain ⟨-, -, -, -, -, c1⟩ := (hK9.2 7 _ rfl).2
    obtain ⟨-, -, -, -, -, c2⟩ := (hK.2 5 _ rfl).2
    exact Option.some.inj (c1.symm.trans c2)
  subst cE
  have hP : va_P E.1 vwCl [(a, .inr (8, [.ref q7, .null, .null, .null, .null, .int 0, .int 0, .int 0, .int 0, .long 0, .long 0])), (q7, .inl (E.2 3, 10, .inr (.inr (.inr (.inr (fun _ => none)))))), (q16, .inl (E.2 5, 6, .inr (.inr (.inr (.inr (fun _ => none))))))] H := hP
  have hD : va_D A [(a, .inr (8, [.ref q7, .null, .null, .null, .null, .int 0, .int 0, .int 0, .int 0, .long 0, .long 0])), (q7, .inl (E.2 3, 10, .inr (.inr (.inr (.inr (fun _ => none)))))), (q16, .inl (E.2 5, 6, .inr (.inr (.inr (.inr (fun _ => none))))))] := hD
  refine W.widen (k := 2) (n := 16) (Nat.le_of_ble_eq_true rfl) (Nat.le_of_ble_eq_true rfl) ?_
  refine va_putF (D := E.1) (ci := 8) (v := .ref q16) (ty := .array (.object "VideoBridge$Room")) (C := RX6) (T := TX6) (N := 11) hx hb hts (by decide +kernel) tyX6 tyX6_ok nmX6 hown hK hP hD hS 0 rfl rfl 1 (by decide) (hts (.fieldLink RX6 17 "VideoBridge" "allRooms" "[LVideoBridge$Room;") (by decide +kernel)) (fun _ h9 => h9) rfl hin rfl (by decide +kernel) rfl rfl (Nat.le_of_ble_eq_true rfl) dX6_init_19 (fun H locs hP hD hS => ?_)
  have hP : va_P E.1 vwCl [(a, .inr (8, [.ref q7, .ref q16, .null, .null, .null, .int 0, .int 0, .int 0, .int 0, .long 0, .long 0])), (q7, .inl (E.2 3, 10, .inr (.inr (.inr (.inr (fun _ => none)))))), (q16, .inl (E.2 5, 6, .inr (.inr (.inr (.inr (fun _ => none))))))] H := hP
  have hD : va_D A [(a, .inr (8, [.ref q7, .ref q16, .null, .null, .null, .int 0, .int 0, .int 0, .int 0, .long 0, .long 0])), (q7, .inl (E.2 3, 10, .inr (.inr (.inr (.inr (fun _ => none)))))), (q16, .inl (E.2 5, 6, .inr (.inr (.inr (.inr (fun _ => none))))))] := hD
  refine lv_aload_n hx hb dX6_init_22 rfl (lv_at hl 0 rfl) ?_
  refine zb_bipush (n := 8) hx hb dX6_init_23 (by decide) ?_
  refine va_newq (N' := 8) (C := RX3) hx hb hown (hts (.classLink RX6 21 RX3) (by decide +kernel)) (hN.2 RX3 (by simp)) hK hP hD hS hA (nI_pos (by decide)) (nI_clamp (by decide)) (Nat.le_of_ble_eq_true rfl) (Nat.le_of_ble_eq_true rfl) (Nat.le_of_ble_eq_true rfl) dX6_init_25 (fun q25 cA H hK9 hP hD hS => ?_)
  have cE : cA = E.2 4 := by
    obtain ⟨-, -, -, -, -, c1⟩ := (hK9.2 7 _ rfl).2
    obtain ⟨-, -, -, -, -, c2⟩ := (hK.2 4 _ rfl).2
    exact Option.some.inj (c1.symm.trans c2)
  subst cE
  have hP : va_P E.1 vwCl [(a, .inr (8, [.ref q7, .ref q16, .null, .null, .null, .int 0, .int 0, .int 0, .int 0, .long 0, .long 0])), (q7, .inl (E.2 3, 10, .inr (.inr (.inr (.inr (fun _ => none)))))), (q16, .inl (E.2 5, 6, .inr (.inr (.inr (.inr (fun _ => none)))))), (q25, .inl (E.2 4, 8, .inr (.inr (.inr (.inr (fun _ => none))))))] H := hP
  have hD : va_D A [(a, .inr (8, [.ref q7, .ref q16, .null, .null, .null, .int 0, .int 0, .int 0, .int 0, .long 0, .long 0])), (q7, .inl (E.2 3, 10, .inr (.inr (.inr (.inr (fun _ => none)))))), (q16, .inl (E.2 5, 6, .inr (.inr (.inr (.inr (fun _ => none)))))), (q25, .inl (E.2 4, 8, .inr (.inr (.inr (.inr (fun _ => none))))))] := hD
  refine W.widen (k := 3) (n := 24) (Nat.le_of_ble_eq_true rfl) (Nat.le_of_ble_eq_true rfl) ?_
  refine va_putF (D := E.1) (ci := 8) (v := .ref q25) (ty := .array (.object "VideoBridge$Recorder")) (C := RX6) (T := TX6) (N := 11) hx hb hts (by decide +kernel) tyX6 tyX6_ok nmX6 hown hK hP hD hS 0 rfl rfl 2 (by decide) (hts (.fieldLink RX6 23 "VideoBridge" "recorders" "[LVideoBridge$Recorder;") (by decide +kernel)) (fun _ h9 => h9) rfl hin rfl (by decide +kernel) rfl rfl (Nat.le_of_ble_eq_true rfl) dX6_init_28 (fun H locs hP hD hS => ?_)
  have hP : va_P E.1 vwCl [(a, .inr (8, [.ref q7, .ref q16, .ref q25, .null, .null, .int 0, .int 0, .int 0, .int 0, .long 0, .long 0])), (q7, .inl (E.2 3, 10, .inr (.inr (.inr (.inr (fun _ => none)))))), (q16, .inl (E.2 5, 6, .inr (.inr (.inr (.inr (fun _ => none)))))), (q25, .inl (E.2 4, 8, .inr (.inr (.inr (.inr (fun _ => none))))))] H := hP
  have hD : va_D A [(a, .inr (8, [.ref q7, .ref q16, .ref q25, .null, .null, .int 0, .int 0, .int 0, .int 0, .long 0, .long 0])), (q7, .inl (E.2 3, 10, .inr (.inr (.inr (.inr (fun _ => none)))))), (q16, .inl (E.2 5, 6, .inr (.inr (.inr (.inr (fun _ => none)))))), (q25, .inl (E.2 4, 8, .inr (.inr (.inr (.inr (fun _ => none))))))] := hD
  refine lv_aload_n hx hb dX6_init_31 rfl (lv_at hl 0 rfl) ?_
  refine va_new (ci := 7) (fs := [.int 0, .null, .int 0]) (C := RX5) (T := TX5) (N := 3) hx hb hts (by decide +kernel) tyX5 tyX5_ok hown (hts (.classLink RX6 27 RX5) (by decide +kernel)) (hts (.instantiable RX5 3) (by decide +kernel)) (hts (.initialized RX5) (by decide +kernel)) hK hP hD hS hA rfl (fun j hj => by rcases (show j = 0 ∨ j = 1 ∨ j = 2 by omega) with rfl | rfl | rfl <;> rfl) (Nat.le_of_ble_eq_true rfl) (Nat.le_of_ble_eq_true rfl) dX6_init_32 (fun q32 H hP hD hS => ?_)
  have hP : va_P E.1 vwCl [(a, .inr (8, [.ref q7, .ref q16, .ref q25, .null, .null, .int 0, .int 0, .int 0, .int 0, .long 0, .long 0])), (q7, .inl (E.2 3, 10, .inr (.inr (.inr (.inr (fun _ => none)))))), (q16, .inl (E.2 5, 6, .inr (.inr (.inr (.inr (fun _ => none)))))), (q25, .inl (E.2 4, 8, .inr (.inr (.inr (.inr (fun _ => none)))))), (q32, .inr (7, [.int 0, .null, .int 0]))] H := hP
  have hD : va_D A [(a, .inr (8, [.ref q7, .ref q16, .ref q25, .null, .null, .int 0, .int 0, .int 0, .int 0, .long 0, .long 0])), (q7, .inl (E.2 3, 10, .inr (.inr (.inr (.inr (fun _ => none)))))), (q16, .inl (E.2 5, 6, .inr (.inr (.inr (.inr (fun _ => none)))))), (q25, .inl (E.2 4, 8, .inr (.inr (.inr (.inr (fun _ => none)))))), (q32, .inr (7, [.int 0, .null, .int 0]))] := hD
  refine W.widen (k := 4) (n := 27) (Nat.le_of_ble_eq_true rfl) (Nat.le_of_ble_eq_true rfl) ?_
  refine lv_dup hx hb dX6_init_35 rfl ?_
  refine zb_sipush (n := 12000) hx hb dX6_init_36 (by decide) ?_
  have hPc := hP.sub (ws' := [(q32, .inr (7, [.int 0, .null, .int 0]))]) [4] rfl
  have hDc := hD.sub (ws' := [(q32, .inr (7, [.int 0, .null, .int 0]))]) [4] (by decide) rfl
  have hFc := va_free (wc := [(q32, .inr (7, [.int 0, .null, .int 0]))]) hD hS hA [4] rfl
  refine va_callv (va_runI (As := [.int (nI 12000)]) (rest := [.ref q32, .ref a]) ⟨hx, hb, hml, hown, hts⟩ (k_X5_init l (E := E) q32 H.size (nI 12000)) (cwI 1 hts gX6_init_X5_init rfl rfl rfl (hts (.initialized RX5) (by decide +kernel)) (hts (.methodLink RX6 29 yX5_init) (by decide +kernel)) (hts (.instanceMethod yX5_init) (by decide +kernel)) rfl (by decide +kernel) ⟨Nat.le_of_ble_eq_true rfl, Nat.le_of_ble_eq_true rfl⟩) ⟨zk_blind, fun U hU hW => ⟨rfl, by rw [hU], by rw [hU]; exact hPc, va_K.moved hW.alike hK, hN.warm hW (by simp), hDc.weaken (fun _ _ _ _ => trivial)⟩⟩ rfl rfl hl.1 rfl (lv_room (Nat.le_of_ble_eq_true rfl)) dX6_init_39 ⟨Nat.le_of_ble_eq_true rfl, Nat.le_of_ble_eq_true rfl⟩) hS (fun q _ h => hFc q h) hFc (fun u t H1 locs ht hvm hw hB hz1 hk1 hS => ?_)
  obtain ⟨q32_0, hP1, hD1⟩ := hB
  rw [ht] at hP1
  obtain ⟨hP, hD⟩ := va_join (wr := [(a, .inr (8, [.ref q7, .ref q16, .ref q25, .null, .null, .int 0, .int 0, .int 0, .int 0, .long 0, .long 0])), (q7, .inl (E.2 3, 10, .inr (.inr (.inr (.inr (fun _ => none)))))), (q16, .inl (E.2 5, 6, .inr (.inr (.inr (.inr (fun _ => none)))))), (q25, .inl (E.2 4, 8, .inr (.inr (.inr (.inr (fun _ => none))))))]) (w1 := [(q32, .inr (7, [.int (nI 12000), .ref q32_0, .int 0])), (q32_0, .inl (E.2 0, 16, .inl (fun _ => 0)))]) hP hD [4] [0, 1, 2, 3] rfl rfl (by decide) (by decide) hk1 hFc hP1 hD1
  generalize H1 = H at hP hS ⊢
  have hP : va_P E.1 vwCl [(a, .inr (8, [.ref q7, .ref q16, .ref q25, .null, .null, .int 0, .int 0, .int 0, .int 0, .long 0, .long 0])), (q7, .inl (E.2 3, 10, .inr (.inr (.inr (.inr (fun _ => none)))))), (q16, .inl (E.2 5, 6, .inr (.inr (.inr (.inr (fun _ => none)))))), (q25, .inl (E.2 4, 8, .inr (.inr (.inr (.inr (fun _ => none)))))), (q32, .inr (7, [.int (nI 12000), .ref q32_0, .int 0])), (q32_0, .inl (E.2 0, 16, .inl (fun _ => 0)))] H := hP
  have hD : va_D A [(a, .inr (8, [.ref q7, .ref q16, .ref q25, .null, .null, .int 0, .int 0, .int 0, .int 0, .long 0, .long 0])), (q7, .inl (E.2 3, 10, .inr (.inr (.inr (.inr (fun _ => none)))))), (q16, .inl (E.2 5, 6, .inr (.inr (.inr (.inr (fun _ => none)))))), (q25, .inl (E.2 4, 8, .inr (.inr (.inr (.inr (fun _ => none)))))), (q32, .inr (7, [.int (nI 12000), .ref q32_0, .int 0])), (q32_0, .inl (E.2 0, 16, .inl (fun _ => 0)))] := hD
  refine W.widen (k := 5) (n := 43) (Nat.le_of_ble_eq_true rfl) (Nat.le_of_ble_eq_true rfl) ?_
  refine va_putF (D := E.1) (ci := 8) (v := .ref q32) (ty := .object "VideoBridge$Row") (C := RX6) (T := TX6) (N := 11) hx hb hts (by decide +kernel) tyX6 tyX6_ok nmX6 hown hK hP hD hS 0 rfl rfl 3 (by decide) (hts (.fieldLink RX6 32 "VideoBridge" "turns" "LVideoBridge$Row;") (by decide +kernel)) (fun _ h9 => h9) rfl hin rfl (by decide +kernel) rfl rfl (Nat.le_of_ble_eq_true rfl) dX6_init_42 (fun H locs hP hD hS => ?_)
  have hP : va_P E.1 vwCl [(a, .inr (8, [.ref q7, .ref q16, .ref q25, .ref q32, .null, .int 0, .int 0, .int 0, .int 0, .long 0, .long 0])), (q7, .inl (E.2 3, 10, .inr (.inr (.inr (.inr (fun _ => none)))))), (q16, .inl (E.2 5, 6, .inr (.inr (.inr (.inr (fun _ => none)))))), (q25, .inl (E.2 4, 8, .inr (.inr (.inr (.inr (fun _ => none)))))), (q32, .inr (7, [.int (nI 12000), .ref q32_0, .int 0])), (q32_0, .inl (E.2 0, 16, .inl (fun _ => 0)))] H := hP
  have hD : va_D A [(a, .inr (8, [.ref q7, .ref q16, .ref q25, .ref q32, .null, .int 0, .int 0, .int 0, .int 0, .long 0, .long 0])), (q7, .inl (E.2 3, 10, .inr (.inr (.inr (.inr (fun _ => none)))))), (q16, .inl (E.2 5, 6, .inr (.inr (.inr (.inr (fun _ => none)))))), (q25, .inl (E.2 4, 8, .inr (.inr (.inr (.inr (fun _ => none)))))), (q32, .inr (7, [.int (nI 12000), .ref q32_0, .int 0])), (q32_0, .inl (E.2 0, 16, .inl (fun _ => 0)))] := hD
  refine lv_aload_n hx hb dX6_init_45 rfl (lv_at hl 0 rfl) ?_
  refine va_new (ci := 2) (fs := [.null, .null, .int 0, .int 0]) (C := RX0) (T := TX0) (N := 4) hx hb hts (by decide +kernel) tyX0 tyX0_ok hown (hts (.classLink RX6 36 RX0) (by decide +kernel)) (hts (.instantiable RX0 4) (by decide +kernel)) (hts (.initialized RX0) (by decide +kernel)) hK hP hD hS hA rfl (fun j hj => by rcases (show j = 0 ∨ j = 1 ∨ j = 2 ∨ j = 3 by omega) with rfl | rfl | rfl | rfl <;> rfl) (Nat.le_of_ble_eq_true rfl) (Nat.le_of_ble_eq_true rfl) dX6_init_46 (fun q46 H hP hD hS => ?_)
  have hP : va_P E.1 vwCl [(a, .inr (8, [.ref q7, .ref q16, .ref q25, .ref q32, .null, .int 0, .int 0, .int 0, .int 0, .long 0, .long 0])), (q7, .inl (E.2 3, 10, .inr (.inr (.inr (.inr (fun _ => none)))))), (q16, .inl (E.2 5, 6, .inr (.inr (.inr (.inr (fun _ => none)))))), (q25, .inl (E.2 4, 8, .inr (.inr (.inr (.inr (fun _ => none)))))), (q32, .inr (7, [.int (nI 12000), .ref q32_0, .int 0])), (q32_0, .inl (E.2 0, 16, .inl (fun _ => 0))), (q46, .inr (2, [.null, .null, .int 0, .int 0]))] H := hP
  have hD : va_D A [(a, .inr (8, [.ref q7, .ref q16, .ref q25, .ref q32, .null, .int 0, .int 0, .int 0, .int 0, .long 0, .long 0])), (q7, .inl (E.2 3, 10, .inr (.inr (.inr (.inr (fun _ => none)))))), (q16, .inl (E.2 5, 6, .inr (.inr (.inr (.inr (fun _ => none)))))), (q25, .inl (E.2 4, 8, .inr (.inr (.inr (.inr (fun _ => none)))))), (q32, .inr (7, [.int (nI 12000), .ref q32_0, .int 0])), (q32_0, .inl (E.2 0, 16, .inl (fun _ => 0))), (q46, .inr (2, [.null, .null, .int 0, .int 0]))] := hD
  refine W.widen (k := 6) (n := 47) (Nat.le_of_ble_eq_true rfl) (Nat.le_of_ble_eq_true rfl) ?_
  refine lv_dup hx hb dX6_init_49 rfl ?_
  have hPc := hP.sub (ws' := [(q46, .inr (2, [.null, .null, .int 0, .int 0]))]) [6] rfl
  have hDc := hD.sub (ws' := [(q46, .inr (2, [.null, .null, .int 0, .int 0]))]) [6] (by decide) rfl
  have hFc := va_free (wc := [(q46, .inr (2, [.null, .null, .int 0, .int 0]))]) hD hS hA [6] rfl
  refine va_callv (va_runIN (As := []) (rest := [.ref q46, .ref a]) ⟨hx, hb, hml, hown, hts⟩ (k_X0_init l (E := E) q46 H.size) ⟨va_cnB (host := RX6) 0 hts gX6_init_X0_init_n38 rfl rfl rfl (hN.1 (RX6, 38, yX0_init) (by simp [za_nests])) (hts (.initialized RX0) (by decide +kernel)) (by decide +kernel) ⟨Nat.le_of_ble_eq_true rfl, Nat.le_of_ble_eq_true rfl⟩, rfl, hts (.instanceMethod yX0_init) (by decide +kernel)⟩ ⟨zk_blind, fun U hU hW => ⟨rfl, by rw [hU], by rw [hU]; exact hPc, va_K.moved hW.alike hK, hN.warm hW (by simp), hDc.weaken (fun _ _ _ _ => trivial)⟩⟩ rfl rfl hl.1 rfl (lv_room (Nat.le_of_ble_eq_true rfl)) dX6_init_50 ⟨Nat.le_of_ble_eq_true rfl, Nat.le_of_ble_eq_true rfl⟩) hS (fun q _ h => hFc q h) hFc (fun u t H1 locs ht hvm hw hB hz1 hk1 hS => ?_)
  obtain ⟨q46_0, q46_1, q46_2, hP1, hD1⟩ := hB
  rw [ht] at hP1
  obtain ⟨hP, hD⟩ := va_join (wr := [(a, .inr (8, [.ref q7, .ref q16, .ref q25, .ref q32, .null, .int 0, .int 0, .int 0, .int 0, .long 0, .long 0])), (q7, .inl (E.2 3, 10, .inr (.inr (.inr (.inr (fun _ => none)))))), (q16, .inl (E.2 5, 6, .inr (.inr (.inr (.inr (fun _ => none)))))), (q25, .inl (E.2 4, 8, .inr (.inr (.inr (.inr (fun _ => none)))))), (q32, .inr (7, [.int (nI 12000), .ref q32_0, .int 0])), (q32_0, .inl (E.2 0, 16, .inl (fun _ => 0)))]) (w1 := [(q46, .inr (2, [.ref q46_0, .ref q46_2, .int 0, .int 0])), (q46_0, .inr (3, [.ref q46_1])), (q46_1, .inl (E.2 0, 10, .inl (fun _ => 0))), (q46_2, .inl (E.2 3, 10, .inr (.inr (.inr (.inr (fun _ => none))))))]) hP hD [6] [0, 1, 2, 3, 4, 5] rfl rfl (by decide) (by decide) hk1 hFc hP1 hD1
  generalize H1 = H at hP hS ⊢
  have hP : va_P E.1 vwCl [(a, .inr (8, [.ref q7, .ref q16, .ref q25, .ref q32, .null, .int 0, .int 0, .int 0, .int 0, .long 0, .long 0])), (q7, .inl (E.2 3, 10, .inr (.inr (.inr (.inr (fun _ => none)))))), (q16, .inl (E.2 5, 6, .inr (.inr (.inr (.inr (fun _ => none)))))), (q25, .inl (E.2 4, 8, .inr (.inr (.inr (.inr (fun _ => none)))))), (q32, .inr (7, [.int (nI 12000), .ref q32_0, .int 0])), (q32_0, .inl (E.2 0, 16, .inl (fun _ => 0))), (q46, .inr (2, [.ref q46_0, .ref q46_2, .int 0, .int 0])), (q46_0, .inr (3, [.ref q46_1])), (q46_1, .inl (E.2 0, 10, .inl (fun _ => 0))), (q46_2, .inl (E.2 3, 10, .inr (.inr (.inr (.inr (fun _ => none))))))] H := hP
  have hD : va_D A [(a, .inr (8, [.ref q7, .ref q16, .ref q25, .ref q32, .null, .int 0, .int 0, .int 0, .int 0, .long 0, .long 0])), (q7, .inl (E.2 3, 10, .inr (.inr (.inr (.inr (fun _ => none)))))), (q16, .inl (E.2 5, 6, .inr (.inr (.inr (.inr (fun _ => none)))))), (q25, .inl (E.2 4, 8, .inr (.inr (.inr (.inr (fun _ => none)))))), (q32, .inr (7, [.int (nI 12000), .ref q32_0, .int 0])), (q32_0, .inl (E.2 0, 16, .inl (fun _ => 0))), (q46, .inr (2, [.ref q46_0, .ref q46_2, .int 0, .int 0])), (q46_0, .inr (3, [.ref q46_1])), (q46_1, .inl (E.2 0, 10, .inl (fun _ => 0))), (q46_2, .inl (E.2 3, 10, .inr (.inr (.inr (.inr (fun _ => none))))))] := hD
  refine W.widen (k := 9) (n := 68) (Nat.le_of_ble_eq_true rfl) (Nat.le_of_ble_eq_true rfl) ?_
  refine va_putF (D := E.1) (ci := 8) (v := .ref q46) (ty := .object "VideoBridge$Chooser") (C := RX6) (T := TX6) (N := 11) hx hb hts (by decide +kernel) tyX6 tyX6_ok nmX6 hown hK hP hD hS 0 rfl rfl 4 (by decide) (hts (.fieldLink RX6 39 "VideoBridge" "chooser" "LVideoBridge$Chooser;") (by decide +kernel)) (fun _ h9 => h9) rfl hin rfl (by decide +kernel) rfl rfl (Nat.le_of_ble_eq_true rfl) dX6_init_53 (fun H locs hP hD hS => ?_)
  have hP : va_P E.1 vwCl [(a, .inr (8, [.ref q7, .ref q16, .ref q25, .ref q32, .ref q46, .int 0, .int 0, .int 0, .int 0, .long 0, .long 0])), (q7, .inl (E.2 3, 10, .inr (.inr (.inr (.inr (fun _ => none)))))), (q16, .inl (E.2 5, 6, .inr (.inr (.inr (.inr (fun _ => none)))))), (q25, .inl (E.2 4, 8, .inr (.inr (.inr (.inr (fun _ => none)))))), (q32, .inr (7, [.int (nI 12000), .ref q32_0, .int 0])), (q32_0, .inl (E.2 0, 16, .inl (fun _ => 0))), (q46, .inr (2, [.ref q46_0, .ref q46_2, .int 0, .int 0])), (q46_0, .inr (3, [.ref q46_1])), (q46_1, .inl (E.2 0, 10, .inl (fun _ => 0))), (q46_2, .inl (E.2 3, 10, .inr (.inr (.inr (.inr (fun _ => none))))))] H := hP
  have hD : va_D A [(a, .inr (8, [.ref q7, .ref q16, .ref q25, .ref q32, .ref q46, .int 0, .int 0, .int 0, .int 0, .long 0, .long 0])), (q7, .inl (E.2 3, 10, .inr (.inr (.inr (.inr (fun _ => none)))))), (q16, .inl (E.2 5, 6, .inr (.inr (.inr (.inr (fun _ => none)))))), (q25, .inl (E.2 4, 8, .inr (.inr (.inr (.inr (fun _ => none)))))), (q32, .inr (7, [.int (nI 12000), .ref q32_0, .int 0])), (q32_0, .inl (E.2 0, 16, .inl (fun _ => 0))), (q46, .inr (2, [.ref q46_0, .ref q46_2, .int 0, .int 0])), (q46_0, .inr (3, [.ref q46_1])), (q46_1, .inl (E.2 0, 10, .inl (fun _ => 0))), (q46_2, .inl (E.2 3, 10, .inr (.inr (.inr (.inr (fun _ => none))))))] := hD
  have hP9 := hP.sub (ws' := [(a, .inr (8, [.ref q7, .ref q16, .ref q25, .ref q32, .ref q46, .int 0, .int 0, .int 0, .int 0, .long 0, .long 0])), (q7, .inl (E.2 3, 10, .inr (.inr (.inr (.inr (fun _ => none)))))), (q16, .inl (E.2 5, 6, .inr (.inr (.inr (.inr (fun _ => none)))))), (q25, .inl (E.2 4, 8, .inr (.inr (.inr (.inr (fun _ => none)))))), (q32, .inr (7, [.int (nI 12000), .ref q32_0, .int 0])), (q32_0, .inl (E.2 0, 16, .inl (fun _ => 0))), (q46, .inr (2, [.ref q46_0, .ref q46_2, .int 0, .int 0])), (q46_0, .inr (3, [.ref q46_1])), (q46_1, .inl (E.2 0, 10, .inl (fun _ => 0))), (q46_2, .inl (E.2 3, 10, .inr (.inr (.inr (.inr (fun _ => none))))))]) [0, 1, 2, 3, 4, 5, 6, 7, 8, 9] rfl
  have hD9 := hD.sub (ws' := [(a, .inr (8, [.ref q7, .ref q16, .ref q25, .ref q32, .ref q46, .int 0, .int 0, .int 0, .int 0, .long 0, .long 0])), (q7, .inl (E.2 3, 10, .inr (.inr (.inr (.inr (fun _ => none)))))), (q16, .inl (E.2 5, 6, .inr (.inr (.inr (.inr (fun _ => none)))))), (q25, .inl (E.2 4, 8, .inr (.inr (.inr (.inr (fun _ => none)))))), (q32, .inr (7, [.int (nI 12000), .ref q32_0, .int 0])), (q32_0, .inl (E.2 0, 16, .inl (fun _ => 0))), (q46, .inr (2, [.ref q46_0, .ref q46_2, .int 0, .int 0])), (q46_0, .inr (3, [.ref q46_1])), (q46_1, .inl (E.2 0, 10, .inl (fun _ => 0))), (q46_2, .inl (E.2 3, 10, .inr (.inr (.inr (.inr (fun _ => none))))))]) [0, 1, 2, 3, 4, 5, 6, 7, 8, 9] (by decide) rfl
  exact W.vret hx hb hr (fun t ht hW => ⟨⟨(), rfl, trivial, q7, q16, q25, q32, q32_0, q46, q46_0, q46_1, q46_2, by rw [ht]; exact hP9, hD9⟩, hS.F ht⟩) hS.2.2 dX6_init_56 hlocks
