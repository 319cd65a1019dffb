section
variable {p : Program} {l : Launch} {e : Env} {R : Room} {s : State} {m : MethodId} {args : Array Value} {below : List Frame} {meth : Method} {c : Code} {H : Heap} {locs : List Loc} {cells slots : Nat} {Q : State → Prop} {cc : ByteArray} {pc : Nat} {ls : Array Slot} {rest : List Value} {E : za_E} {b : Nat} {H0 : Heap}
def za_PcA (E : za_E) (b : Nat) (u : za_T) (av : List Value) : Array Value → State → Prop := fun a U => za_Pc E b u av a U ∧ va_AO RX2 U
theorem za_blindA {u : za_T} {av : List Value} : FrameBlind (za_PcA E b u av) := fun a U g mk h => ⟨za_blind a U g mk h.1, h.2.moved (Vm.Alike.refl U.vm)⟩
theorem za_preA {u : za_T} (hAO : va_AO RX2 s) (hK : za_K E s) (hZ : za_Z b s s.heap) (hb0 : b ≤ s.heap.size) (hG : za_G E b u H) (hS : va_S (za_A b) s.heap H locs) (av : List Value) : ∀ U : State, U.heap = H → s.WarmedH U.vm → za_PcA E b u av av.toArray U := fun U hU hW => ⟨za_pre hK hZ hb0 hG hS av U hU hW, hAO.moved hW.alike⟩
theorem zm_metA {y : MethodName} {ccm : ByteArray} {maxL : Nat} {ret : Option FieldType} {ws ws' : List Cond} {own : String} {rm : Room} {u : za_T} {As : List Value} {Qc : Array Value → State → Outcome → State → Prop} {mc ms : Nat} {lv : List (Nat × Value)} (hy : plainName y.cls = true) (hw : ws = Cond.code y ccm maxL ret :: ws') (how : y.cls = own) (hlv : lv_args 0 As = lv) (hlen : (lg_sl As).length ≤ maxL)
    (body : ∀ (p : Program) (e : Env) (s : State) (m : MethodId) (below : List Frame) (meth : Method) (c : Code), p.tables.exec = Jvm.exec → c.code = ccm → c.maxLocals = maxL → meth.sig.returnType = ret → s.vm.findClass own = some m.cls → (∀ w ∈ ws, w.before As.toArray s = true) → meth.locks = false → za_K E s → za_Z b s s.heap → va_AO RX2 s → b ≤ s.heap.size → za_G E b u s.heap → va_S (za_A b) s.heap s.heap [] → ∀ ls : Array Slot, lv_has ls maxL lv →
      W p l e rm s m As.toArray below meth c s.heap [] 0 0 (MQ below Qc As.toArray s mc ms (za_A b)) (F0 m 0 ls [])) : Met l y ws rm (za_PcA E b u As) Qc mc ms (za_A b) := by
  refine Met.ofW (cc := ccm) (maxL := maxL) (ret := ret) hy hw ?_
  intro p e s m args below meth c s₁ B hml hv
  obtain ⟨⟨rfl, hK, hZ, hb0, hG⟩, hAO⟩ := hv
  have hown : s.vm.findClass own = some m.cls := by rw [← how]; exact findClass_of_methodNamed B.named
  have hl := lv_entry As hlen
  rw [lg_entry_eq]
  rw [hlv] at hl
  exact body p e s m below meth c B.exec B.bytes hml B.returns hown (atoms_spec (ws := ws) B.pre) B.notSynchronized hK hZ hAO hb0 hG va_S.rf _ hl
theorem zx_metA {y : MethodName} {ccm : ByteArray} {maxL : Nat} {ret : Option FieldType} {ws ws' : List Cond} {own : String} {rm : Room} {u : za_T} {As : List Value} {Qc : Array Value → State → Outcome → State → Prop} {XC : String → State → State → Prop} {mc ms : Nat} {lv : List (Nat × Value)} (hy : plainName y.cls = true) (hw : ws = Cond.code y ccm maxL ret :: ws') (how : y.cls = own) (hlv : lv_args 0 As = lv) (hlen : (lg_sl As).length ≤ maxL)
    (body : ∀ (p : Program) (e : Env) (s : State) (m : MethodId) (below : List Frame) (meth : Method) (c : Code), p.tables.exec = Jvm.exec → c.code = ccm → c.maxLocals = maxL → meth.sig.returnType = ret → s.vm.findClass own = some m.cls → (∀ w ∈ ws, w.before As.toArray s = true) → meth.locks = false → (∀ x ∈ c.exceptionTable.toList, False) → za_K E s → za_Z b s s.heap → va_AO RX2 s → b ≤ s.heap.size → za_G E b u s.heap → va_S (za_A b) s.heap s.heap [] → ∀ ls : Array Slot, lv_has ls maxL lv →
      W p l e rm s m As.toArray below meth c s.heap [] 0 0 (vx_MQ below Qc XC As.toArray s mc ms (za_A b)) (F0 m 0 ls [])) : vx_Met l y ws rm (za_PcA E b u As) Qc XC mc ms (za_A b) := by
  refine vx_ofW (cc := ccm) (maxL := maxL) (ret := ret) hy hw ?_
  intro p e s m args below meth c s₁ B hml htb hv
  obtain ⟨⟨rfl, hK, hZ, hb0, hG⟩, hAO⟩ := hv
  have hown : s.vm.findClass own = some m.cls := by rw [← how]; exact findClass_of_methodNamed B.named
  have hl := lv_entry As hlen
  rw [lg_entry_eq]
  rw [hlv] at hl
  exact body p e s m below meth c B.exec B.bytes hml B.returns hown (atoms_spec (ws := ws) B.pre) B.notSynchronized htb hK hZ hAO hb0 hG va_S.rf _ hl
theorem zw_ofW {y : MethodName} {ws ws' : List Cond} {rm : Room} {Pc : Array Value → State → Prop} {Qc : Array Value → State → Outcome → State → Prop} {mc ms : Nat} {free : Addr → Prop} {maxL : Nat} {ret : Option FieldType} {hh : List (Nat × Nat × Nat × Nat)}
    (hy : plainName y.cls = true) (hw : ws = Cond.codeWith y cc maxL ret hh :: ws')
    (body : ∀ p e s m args below meth c s₁, BodyLoose p l y (headSpec ws rm) cc maxL ret e s m args below meth c s₁ → c.maxLocals = maxL → c.exceptionTable.toList = tableOf hh → Pc args s →
      W p l e (headSpec ws rm).room s m args below meth c s.heap [] 0 0 (MQ below Qc args s mc ms free) (entryFrame m args maxL)) : Met l y ws rm Pc Qc mc ms free := by
  refine MetFree.of_bodyS (code := cc) (maxLocals := maxL) (ret := ret) hy ?_ ?_
  · intro args s m h hn
    obtain ⟨m9, meth, c, hn9, h1, h2, h3, h4, h5, h6, h7, -⟩ := Cond.codeWith_spec (atoms_spec (ws := ws) h _ (by rw [hw]; exact List.mem_cons_self))
    cases Option.some.inj (hn9.symm.trans hn)
    exact ⟨meth, c, h1, h2, h3, h4, h6, h7⟩
  · intro p e s m args below meth c s₁ B hml hP _
    have hh0 : s₁.heap = s.heap := by rw [B.state]; rfl
    have ht := vx_table (x := y) B (atoms_spec (ws := ws) B.pre _ (by rw [hw]; exact List.mem_cons_self))
    obtain ⟨t, a1, o, b1, b2, b3⟩ := body p e s m args below meth c s₁ B hml ht hP s₁ hh0 (Stand.of_body B)
    exact ⟨t, o, a1, b1, b2, ⟨b3.1, b3.2⟩⟩
theorem zw_met {y : MethodName} {ccm : ByteArray} {maxL : Nat} {ret : Option FieldType} {ws ws' : List Cond} {own : String} {rm : Room} {u : za_T} {As : List Value} {Qc : Array Value → State → Outcome → State → Prop} {mc ms : Nat} {lv : List (Nat × Value)} (hy : plainName y.cls = true) {hh : List (Nat × Nat × Nat × Nat)} (hw : ws = Cond.codeWith y ccm maxL ret hh :: ws') (how : y.cls = own) (hlv : lv_args 0 As = lv) (hlen : (lg_sl As).length ≤ maxL)
    (body : ∀ (p : Program) (e : Env) (s : State) (m : MethodId) (below : List Frame) (meth : Method) (c : Code), p.tables.exec = Jvm.exec → c.code = ccm → c.maxLocals = maxL → meth.sig.returnType = ret → s.vm.findClass own = some m.cls → (∀ w ∈ ws, w.before As.toArray s = true) → meth.locks = false → c.exceptionTable.toList = tableOf hh → za_K E s → za_Z b s s.heap → va_AO RX2 s → b ≤ s.heap.size → za_G E b u s.heap → va_S (za_A b) s.heap s.heap [] → ∀ ls : Array Slot, lv_has ls maxL lv →
      W p l e rm s m As.toArray below meth c s.heap [] 0 0 (MQ below Qc As.toArray s mc ms (za_A b)) (F0 m 0 ls [])) : Met l y ws rm (za_PcA E b u As) Qc mc ms (za_A b) := by
  refine zw_ofW (cc := ccm) (maxL := maxL) (ret := ret) hy hw ?_
  intro p e s m args below meth c s₁ B hml htb hv
  obtain ⟨⟨rfl, hK, hZ, hb0, hG⟩, hAO⟩ := hv
  have hown : s.vm.findClass own = some m.cls := by rw [← how]; exact findClass_of_methodNamed B.named
  have hl := lv_entry As hlen
  rw [lg_entry_eq]
  rw [hlv] at hl
  exact body p e s m below meth c B.exec B.bytes hml B.returns hown (atoms_spec (ws := ws) B.pre) B.notSynchronized htb hK hZ hAO hb0 hG va_S.rf _ hl
theorem zc_AVq {y : MethodName} {bytes : ByteArray} {maxL nL mc ms n index κ : Nat} {ret : Option FieldType} {ws : List Cond} {rm : Room} {Ts : List Cond} {own C : String} {a : Addr} {As st : List Value} {post : Option Nat → za_T → Prop} (hK : za_K E s) (hZ : za_Z b s s.heap) (hAO : va_AO RX2 s) (hb0 : b ≤ s.heap.size) {u : za_T} (hG : za_G E b u H) (hS : va_S (za_A b) s.heap H locs) (hexec : p.tables.exec = Jvm.exec) (hb : c.code = cc) (hml : c.maxLocals = nL) (hown : s.vm.findClass own = some m.cls) (hts : ∀ w ∈ Ts, w.before args s = true) (hM : Met l y ws rm (za_PcA E b u (.ref a :: As)) (za_Qq E b κ post) mc ms (za_A b)) (cw : CallW R s args own C index y bytes maxL ret ws rm mc ms n) (hrecv : ∃ cellB : Cell, H[a]? = some cellB ∧ cellB.vm.isStatics = false ∧ s.vm.findClass C = some cellB.cls) (hn : As.length = n) {lv : List (Nat × Value)} (hl : lv_has ls nL lv) (hst : st = As.reverse ++ .ref a :: rest) (hW : (rest.map fun v => v.category).sum ≤ 8) (hdg : decode cc pc = .ok (.invokevirtual index, 3)) (hf : cells + mc ≤ R.cells ∧ slots + ms ≤ R.slots)
    (kk : ∀ (r : Option Nat) (u' : za_T) (H1 : Heap) (locs1 : List Loc), post r u' → za_G E b u' H1 → va_S (za_A b) s.heap H1 locs1 → W p l e R s m args below meth c H1 locs1 (cells + mc) (slots + ms) Q (F0 m (pc + 3) ls (za_o u'.1 κ r :: rest))) : W p l e R s m args below meth c H locs cells slots Q (F0 m pc ls st) := by
  subst hst
  exact va_callq (va_runV (As := As) (rest := rest) ⟨hexec, hb, hml, hown, hts⟩ hM cw ⟨za_blindA, hrecv, za_preA hAO hK hZ hb0 hG hS _⟩ rfl hn hl.1 rfl (lv_room hW) hdg hf) hS (fun _ _ h => h) (fun _ h => h) (fun r w t H1 locs1 ht hvm hw hB hz1 hk1 hS1 => by
    have h9 := kk w.1 w.2 H1 locs1 hw.2 (by rw [← ht]; exact hB) hS1
    rw [hw.1]
    exact h9)
theorem zc_xAVi {y : MethodName} {bytes : ByteArray} {maxL nL mc ms n index : Nat} {ret : Option FieldType} {ws : List Cond} {rm : Room} {Ts : List Cond} {own C : String} {a : Addr} {As st : List Value} {post : Int32 → za_T → Prop} {px : String → za_T → Prop} (hK : za_K E s) (hZ : za_Z b s s.heap) (hAO : va_AO RX2 s) (hb0 : b ≤ s.heap.size) {u : za_T} (hG : za_G E b u H) (hS : va_S (za_A b) s.heap H locs) (hexec : p.tables.exec = Jvm.exec) (hb : c.code = cc) (hml : c.maxLocals = nL) (hown : s.vm.findClass own = some m.cls) (hts : ∀ w ∈ Ts, w.before args s = true) (hM : vx_Met l y ws rm (za_PcA E b u (.ref a :: As)) (za_Qi E b post) (za_X E b px) mc ms (za_A b)) (cw : CallW R s args own C index y bytes maxL ret ws rm mc ms n) (hrecv : ∃ cellB : Cell, H[a]? = some cellB ∧ cellB.vm.isStatics = false ∧ s.vm.findClass C = some cellB.cls) (hn : As.length = n) {lv : List (Nat × Value)} (hl : lv_has ls nL lv) (hst : st = As.reverse ++ .ref a :: rest) (hW : (rest.map fun v => v.category).sum ≤ 8) (hdg : decode cc pc = .ok (.invokevirtual index, 3)) (hf : cells + mc ≤ R.cells ∧ slots + ms ≤ R.slots)
    (kx : ∀ (En : String) (ce : Cell) (q9 : Addr) (u' : za_T) (H1 : Heap) (locs1 : List Loc), px En u' → za_G E b u' H1 → va_S (za_A b) s.heap H1 locs1 → H1[q9]? = some ce → ce.vm = .none → s.vm.findClass En = some ce.cls → vx_W p l e R s m args below meth c H1 locs1 (cells + mc) (slots + ms) Q (F0 m pc ls rest) q9)
    (kk : ∀ (r : Int32) (u' : za_T) (H1 : Heap) (locs1 : List Loc), post r u' → za_G E b u' H1 → va_S (za_A b) s.heap H1 locs1 → W p l e R s m args below meth c H1 locs1 (cells + mc) (slots + ms) Q (F0 m (pc + 3) ls (.int r :: rest))) : W p l e R s m args below meth c H locs cells slots Q (F0 m pc ls st) := by
  subst hst
  exact vx_calli (vx_runV (As := As) (rest := rest) ⟨hexec, hb, hml, hown, hts⟩ hM cw ⟨za_blindA, hrecv, za_preA hAO hK hZ hb0 hG hS _⟩ rfl hn hl.1 rfl (lv_room hW) hdg hf) hS (fun _ _ h => h) (fun _ h => h) (fun _ _ h => h) (fun En ce q9 w t H1 locs1 ht hvm hw hB hz1 hk1 hS1 g1 g2 g3 => kx En ce q9 w.2 H1 locs1 (by rw [hB.1]; exact hw) (by rw [← ht]; exact hB.2) hS1 g1 g2 g3) (fun r u t H1 locs1 ht hvm hw hB hz1 hk1 hS1 => kk r u H1 locs1 hw (by rw [← ht]; exact hB) hS1)
end
