set_option maxRecDepth 100000 in
set_option maxHeartbeats 4000000 in
theorem c_X6_setBudget (l : Launch) (hl0 : l.stackTraces = false) {E : za_E} {b : Nat} {ad : za_Ad} {S X T Y : za_S} {ow : Int64} {dw : UInt64} (p0 p1 : Int32) (hC : zs_C S X)  : vx_Met l yX6_setBudget wsX6_setBudget ({ frames := 7, cells := 3, slots := 18, locals := 115 } : Room) (za_Pc E b (ad, S, X, T, Y, ow, dw) [.ref (ad 0 0), .int p0, .int p1]) (za_Qi E b (fun r u => zo_set S (zs_ix p0) (zs_ix p1) 9999 = 0 ∧ r = nI (S.1 1 (zs_ix p0) 0) ∧ ∃ X2, u = (ad, za_N S 1 (zs_ix p0) 0 (zs_ix p1), X2, T, Y, ow, dw) ∧ zs_fv X X2 ∧ zs_B X2 ∧ zs_ok (za_N S 1 (zs_ix p0) 0 (zs_ix p1)) X2)) (za_X E b (fun En u => (En = "java/util/NoSuchElementException" ∧ zo_set S (zs_ix p0) (zs_ix p1) 9999 = 1 ∧ u = (ad, S, X, T, Y, ow, dw)) ∨ (En = "java/lang/IllegalArgumentException" ∧ zo_set S (zs_ix p0) (zs_ix p1) 9999 = 2 ∧ u = (ad, S, X, T, Y, ow, dw)))) (3) (18) (za_A b) := by
  refine zx_met (ccm := cX6_setBudget) (maxL := 5) (ret := (some .int)) (ws' := _) (own := RX6) (lv := [(0, .ref (ad 0 0)), (1, .int p0), (2, .int p1)]) (by decide) rfl rfl rfl (by simp [lg_sl, Value.category]) ?_
  intro pg en s m below meth c hx hb hml hr hown hts hlocks htb hK hZ hb0 hG hS ls hl
  have hf64 := hts (.fieldLink RX6 64 "VideoBridge$Person" "budget" "I") (by decide +kernel)
  have hinX2 : ∀ w ∈ u_ws RX2 TX2 8, w ∈ wsX6_setBudget := by decide +kernel
  skip
  obtain ⟨hI, hJ, hBX, hok, hRw⟩ := hC
  have hBS := hI.B
  have hc1 := hI.c
  refine lv_aload_n hx hb dX6_setBudget_0 rfl (lv_at hl 0 rfl) ?_
  refine lv_iload_n hx hb dX6_setBudget_1 rfl (lv_at hl 1 rfl) ?_
  refine zc_xVq (κ := 8) (As := [.int p0]) (rest := []) hK hZ hb0 hG hS hx hb hml hown hts (c_X6_personOf l hl0 p0 hJ hBX hBS) (cwV 1 hts gX6_setBudget_X6_personOf rfl rfl rfl (by decide +kernel) ⟨Nat.le_of_ble_eq_true rfl, Nat.le_of_ble_eq_true rfl⟩) (za_recv (q := (RX6, TX6, 11)) hK hG 0 0 ⟨by omega, rfl⟩ rfl rfl rfl) rfl hl rfl (Nat.le_of_ble_eq_true rfl) dX6_setBudget_2 ⟨Nat.le_of_ble_eq_true rfl, Nat.le_of_ble_eq_true rfl⟩ (fun En ce q9 u_2 H locs hp hG hS g1 g2 g3 => ?_) (fun r_2 u_2 H locs hp hG hS => ?_)
  · obtain ⟨rfl, h1, rfl⟩ := hp
    exact vx_out (fun x h => (htb x h).elim) hlocks g1 g2 g3 (fun t ht hW => ⟨(_, _), (Or.inl ⟨rfl, by unfold zo_set; rw [if_pos h1], rfl⟩), ⟨rfl, by show za_G E b _ t.heap; rw [ht]; exact hG⟩, hS.F ht⟩) hS.2.2 (by omega) (by omega)
  · obtain ⟨rfl, h1, rfl⟩ := hp
    refine lv_astore_n (lv' := [(3, .ref (ad 8 (zs_ix p0))), (0, .ref (ad 0 0)), (1, .int p0), (2, .int p1)]) hx hb dX6_setBudget_5 rfl hl (by decide) rfl (fun ls hl => ?_)
    refine zb_sipush (n := 9999) hx hb dX6_setBudget_6 (by decide) ?_
    refine lv_iload_n hx hb dX6_setBudget_9 rfl (lv_at hl 3 rfl) ?_
    refine zc_xSv (As := [.int (nI 9999), .int p1]) (rest := []) hK hZ hb0 hG hS hx hb hml hown hts (c_X6_requireUpTo l hl0 9999 p1 (by decide)) (cwS 2 hts gX6_setBudget_X6_requireUpTo rfl rfl rfl (by decide +kernel) ⟨Nat.le_of_ble_eq_true rfl, Nat.le_of_ble_eq_true rfl⟩) rfl hl rfl (Nat.le_of_ble_eq_true rfl) dX6_setBudget_10 ⟨Nat.le_of_ble_eq_true rfl, Nat.le_of_ble_eq_true rfl⟩ (fun En ce q9 u_10 H locs hp hG hS g1 g2 g3 => ?_) (fun u_10 H locs hp hG hS => ?_)
    · obtain ⟨rfl, h2, rfl⟩ := hp
      exact vx_out (fun x h => (htb x h).elim) hlocks g1 g2 g3 (fun t ht hW => ⟨(_, _), (Or.inr ⟨rfl, by unfold zo_set; rw [if_neg (fun h => h h1), if_pos h2], rfl⟩), ⟨rfl, by show za_G E b _ t.heap; rw [ht]; exact hG⟩, hS.F ht⟩) hS.2.2 (by omega) (by omega)
    · obtain ⟨h2, rfl⟩ := hp
      rcases zs_ixc p1 with ⟨-, e⟩ | ⟨n, hn, rfl, e⟩; · exact absurd h2 (by rw [e]; decide)
      have hl : lv_has ls 5 [(3, .ref (ad 8 (zs_ix p0))), (0, .ref (ad 0 0)), (1, .int p0), (2, .int (nI n))] := hl
      refine lv_aload_n hx hb dX6_setBudget_13 rfl (lv_at hl 0 rfl) ?_
      refine zg_PE_budget hx hb hts hinX2 hown hf64 hK hG (zs_ix p0) (hJ.pe h1) (n := S.1 1 (zs_ix p0) 0) rfl dX6_setBudget_14 ?_
      refine lv_istore (lv' := [(4, .int (nI (S.1 1 (zs_ix p0) 0))), (3, .ref (ad 8 (zs_ix p0))), (0, .ref (ad 0 0)), (1, .int p0), (2, .int (nI n))]) hx hb dX6_setBudget_17 hl (by decide) rfl (fun ls hl => ?_)
      refine lv_aload_n hx hb dX6_setBudget_19 rfl (lv_at hl 1 rfl) ?_
      refine lv_iload_n hx hb dX6_setBudget_20 rfl (lv_at hl 4 rfl) ?_
      refine zp_PE_budget hx hb hts hinX2 hown hf64 hS hK hG (zs_ix p0) (hJ.pe h1) dX6_setBudget_21 (fun H locs hG hS => ?_)
      refine lv_aload_n hx hb dX6_setBudget_24 rfl (lv_at hl 2 rfl) ?_
      refine zc_Vv (As := []) (rest := []) hK hZ hb0 hG hS hx hb hml hown hts (c_X6_chooseViews l hJ (zs_Va_N hI 1 (by decide) (zs_ix p0) n) hBX (zs_N_B hBS (by have := h2; rw [e] at this; omega))) (cwV 0 hts gX6_setBudget_X6_chooseViews rfl rfl rfl (by decide +kernel) ⟨Nat.le_of_ble_eq_true rfl, Nat.le_of_ble_eq_true rfl⟩) (za_recv (q := (RX6, TX6, 11)) hK hG 0 0 ⟨by omega, rfl⟩ rfl rfl rfl) rfl hl rfl (Nat.le_of_ble_eq_true rfl) dX6_setBudget_25 ⟨Nat.le_of_ble_eq_true rfl, Nat.le_of_ble_eq_true rfl⟩ (fun u_25 H locs hp hG hS => ?_)
      obtain ⟨X2, rfl, q1, q2, q3, q4⟩ := hp
      refine lv_iload hx hb dX6_setBudget_28 (lv_at hl 0 rfl) ?_
      exact vx_ret (zm_iret hx hb hr hlocks hG hS (by omega) (by omega) ⟨by unfold zo_set; rw [if_neg (fun h => h h1), if_neg (fun h => h h2)], rfl, X2, by rw [e], q1, q2, by rw [e]; exact ⟨q3, q4⟩⟩ dX6_setBudget_30)

set_option maxRecDepth 100000 in
set_option maxHeartbeats 4000000 in
theorem c_X6_setSends (l : Launch) (hl0 : l.stackTraces = false) {E : za_E} {b : Nat} {ad : za_Ad} {S X T Y : za_S} {ow : Int64} {dw : UInt64} (p0 p1 : Int32) (hC : zs_C S X)  : vx_Met l yX6_setSends wsX6_setSends ({ frames := 7, cells := 3, slots := 18, locals := 115 } : Room) (za_Pc E b (ad, S, X, T, Y, ow, dw) [.ref (ad 0 0), .int p0, .int p1]) (za_Qi E b (fun r u => zo_set S (zs_ix p0) (zs_ix p1) 3 = 0 ∧ r = nI (S.1 2 (zs_ix p0) 0) ∧ ∃ X2, u = (ad, za_N S 2 (zs_ix p0) 0 (zs_ix p1), X2, T, Y, ow, dw) ∧ zs_fv X X2 ∧ zs_B X2 ∧ zs_ok (za_N S 2 (zs_ix p0) 0 (zs_ix p1)) X2)) (za_X E b (fun En u => (En = "java/util/NoSuchElementException" ∧ zo_set S (zs_ix p0) (zs_ix p1) 3 = 1 ∧ u = (ad, S, X, T, Y, ow, dw)) ∨ (En = "java/lang/IllegalArgumentException" ∧ zo_set S (zs_ix p0) (zs_ix p1) 3 = 2 ∧ u = (ad, S, X, T, Y, ow, dw)))) (3) (18) (za_A b) := by
  refine zx_met (ccm := cX6_setSends) (maxL := 5) (ret := (some .int)) (ws' := _) (own := RX6) (lv := [(0, .ref (ad 0 0)), (1, .int p0), (2, .int p1)]) (by decide) rfl rfl rfl (by simp [lg_sl, Value.category]) ?_
  intro pg en s m below meth c hx hb hml hr hown hts hlocks htb hK hZ hb0 hG hS ls hl
  have hf70 := hts (.fieldLink RX6 70 "VideoBridge$Person" "sends" "I") (by decide +kernel)
  have hinX2 : ∀ w ∈ u_ws RX2 TX2 8, w ∈ wsX6_setSends := by decide +kernel
  skip
  obtain ⟨hI, hJ, hBX, hok, hRw⟩ := hC
  have hBS := hI.B
  have hc1 := hI.c
  refine lv_aload_n hx hb dX6_setSends_0 rfl (lv_at hl 0 rfl) ?_
  refine lv_iload_n hx hb dX6_setSends_1 rfl (lv_at hl 1 rfl) ?_
  refine zc_xVq (κ := 8) (As := [.int p0]) (rest := []) hK hZ hb0 hG hS hx hb hml hown hts (c_X6_personOf l hl0 p0 hJ hBX hBS) (cwV 1 hts gX6_setSends_X6_personOf rfl rfl rfl (by decide +kernel) ⟨Nat.le_of_ble_eq_true rfl, Nat.le_of_ble_eq_true rfl⟩) (za_recv (q := (RX6, TX6, 11)) hK hG 0 0 ⟨by omega, rfl⟩ rfl rfl rfl) rfl hl rfl (Nat.le_of_ble_eq_true rfl) dX6_setSends_2 ⟨Nat.le_of_ble_eq_true rfl, Nat.le_of_ble_eq_true rfl⟩ (fun En ce q9 u_2 H locs hp hG hS g1 g2 g3 => ?_) (fun r_2 u_2 H locs hp hG hS => ?_)
  · obtain ⟨rfl, h1, rfl⟩ := hp
    exact vx_out (fun x h => (htb x h).elim) hlocks g1 g2 g3 (fun t ht hW => ⟨(_, _), (Or.inl ⟨rfl, by unfold zo_set; rw [if_pos h1], rfl⟩), ⟨rfl, by show za_G E b _ t.heap; rw [ht]; exact hG⟩, hS.F ht⟩) hS.2.2 (by omega) (by omega)
  · obtain ⟨rfl, h1, rfl⟩ := hp
    refine lv_astore_n (lv' := [(3, .ref (ad 8 (zs_ix p0))), (0, .ref (ad 0 0)), (1, .int p0), (2, .int p1)]) hx hb dX6_setSends_5 rfl hl (by decide) rfl (fun ls hl => ?_)
    refine zb_iconst (n := 3) hx hb dX6_setSends_6 (by decide) ?_
    refine lv_iload_n hx hb dX6_setSends_7 rfl (lv_at hl 3 rfl) ?_
    refine zc_xSv (As := [.int (nI 3), .int p1]) (rest := []) hK hZ hb0 hG hS hx hb hml hown hts (c_X6_requireUpTo l hl0 3 p1 (by decide)) (cwS 2 hts gX6_setSends_X6_requireUpTo rfl rfl rfl (by decide +kernel) ⟨Nat.le_of_ble_eq_true rfl, Nat.le_of_ble_eq_true rfl⟩) rfl hl rfl (Nat.le_of_ble_eq_true rfl) dX6_setSends_8 ⟨Nat.le_of_ble_eq_true rfl, Nat.le_of_ble_eq_true rfl⟩ (fun En ce q9 u_8 H locs hp hG hS g1 g2 g3 => ?_) (fun u_8 H locs hp hG hS => ?_)
    · obtain ⟨rfl, h2, rfl⟩ := hp
      exact vx_out (fun x h => (htb x h).elim) hlocks g1 g2 g3 (fun t ht hW => ⟨(_, _), (Or.inr ⟨rfl, by unfold zo_set; rw [if_neg (fun h => h h1), if_pos h2], rfl⟩), ⟨rfl, by show za_G E b _ t.heap; rw [ht]; exact hG⟩, hS.F ht⟩) hS.2.2 (by omega) (by omega)
    · obtain ⟨h2, rfl⟩ := hp
      rcases zs_ixc p1 with ⟨-, e⟩ | ⟨n, hn, rfl, e⟩; · exact absurd h2 (by rw [e]; decide)
      have hl : lv_has ls 5 [(3, .ref (ad 8 (zs_ix p0))), (0, .ref (ad 0 0)), (1, .int p0), (2, .int (nI n))] := hl
      refine lv_aload_n hx hb dX6_setSends_11 rfl (lv_at hl 0 rfl) ?_
      refine zg_PE_sends hx hb hts hinX2 hown hf70 hK hG (zs_ix p0) (hJ.pe h1) (n := S.1 2 (zs_ix p0) 0) rfl dX6_setSends_12 ?_
      refine lv_istore (lv' := [(4, .int (nI (S.1 2 (zs_ix p0) 0))), (3, .ref (ad 8 (zs_ix p0))), (0, .ref (ad 0 0)), (1, .int p0), (2, .int (nI n))]) hx hb dX6_setSends_15 hl (by decide) rfl (fun ls hl => ?_)
      refine lv_aload_n hx hb dX6_setSends_17 rfl (lv_at hl 1 rfl) ?_
      refine lv_iload_n hx hb dX6_setSends_18 rfl (lv_at hl 4 rfl) ?_
      refine zp_PE_sends hx hb hts hinX2 hown hf70 hS hK hG (zs_ix p0) (hJ.pe h1) dX6_setSends_19 (fun H locs hG hS => ?_)
      refine lv_aload_n hx hb dX6_setSends_22 rfl (lv_at hl 2 rfl) ?_
      refine zc_Vv (As := []) (rest := []) hK hZ hb0 hG hS hx hb hml hown hts (c_X6_chooseViews l hJ (zs_Va_N hI 2 (by decide) (zs_ix p0) n) hBX (zs_N_B hBS (by have := h2; rw [e] at this; omega))) (cwV 0 hts gX6_setSends_X6_chooseViews rfl rfl rfl (by decide +kernel) ⟨Nat.le_of_ble_eq_true rfl, Nat.le_of_ble_eq_true rfl⟩) (za_recv (q := (RX6, TX6, 11)) hK hG 0 0 ⟨by omega, rfl⟩ rfl rfl rfl) rfl hl rfl (Nat.le_of_ble_eq_true rfl) dX6_setSends_23 ⟨Nat.le_of_ble_eq_true rfl, Nat.le_of_ble_eq_true rfl⟩ (fun u_23 H locs hp hG hS => ?_)
      obtain ⟨X2, rfl, q1, q2, q3, q4⟩ := hp
      refine lv_iload hx hb dX6_setSends_26 (lv_at hl 0 rfl) ?_
      exact vx_ret (zm_iret hx hb hr hlocks hG hS (by omega) (by omega) ⟨by unfold zo_set; rw [if_neg (fun h => h h1), if_neg (fun h => h h2)], rfl, X2, by rw [e], q1, q2, by rw [e]; exact ⟨q3, q4⟩⟩ dX6_setSends_28)

set_option maxRecDepth 100000 in
set_option maxHeartbeats 4000000 in
theorem c_X6_setLoud (l : Launch) (hl0 : l.stackTraces = false) {E : za_E} {b : Nat} {ad : za_Ad} {S X T Y : za_S} {ow : Int64} {dw : UInt64} (p0 p1 : Int32) (hC : zs_C S X)  : vx_Met l yX6_setLoud wsX6_setLoud ({ frames := 7, cells := 3, slots := 18, locals := 104 } : Room) (za_Pc E b (ad, S, X, T, Y, ow, dw) [.ref (ad 0 0), .int p0, .int p1]) (za_Qi E b (fun r u => zo_set S (zs_ix p0) (zs_ix p1) 99 = 0 ∧ r = nI (S.1 3 (zs_ix p0) 0) ∧ u = (ad, za_N S 3 (zs_ix p0) 0 (zs_ix p1), X, T, Y, ow, dw))) (za_X E b (fun En u => (En = "java/util/NoSuchElementException" ∧ zo_set S (zs_ix p0) (zs_ix p1) 99 = 1 ∧ u = (ad, S, X, T, Y, ow, dw)) ∨ (En = "java/lang/IllegalArgumentException" ∧ zo_set S (zs_ix p0) (zs_ix p1) 99 = 2 ∧ u = (ad, S, X, T, Y, ow, dw)))) (3) (18) (za_A b) := by
  refine zx_met (ccm := cX6_setLoud) (maxL := 5) (ret := (some .int)) (ws' := _) (own := RX6) (lv := [(0, .ref (ad 0 0)), (1, .int p0), (2, .int p1)]) (by decide) rfl rfl rfl (by simp [lg_sl, Value.category]) ?_
  intro pg en s m below meth c hx hb hml hr hown hts hlocks htb hK hZ hb0 hG hS ls hl
  have hf73 := hts (.fieldLink RX6 73 "VideoBridge$Person" "loudness" "I") (by decide +kernel)
  have hinX2 : ∀ w ∈ u_ws RX2 TX2 8, w ∈ wsX6_setLoud := by decide +kernel
  skip
  obtain ⟨hI, hJ, hBX, hok, hRw⟩ := hC
  have hBS := hI.B
  have hc1 := hI.c
  refine lv_aload_n hx hb dX6_setLoud_0 rfl (lv_at hl 0 rfl) ?_
  refine lv_iload_n hx hb dX6_setLoud_1 rfl (lv_at hl 1 rfl) ?_
  refine zc_xVq (κ := 8) (As := [.int p0]) (rest := []) hK hZ hb0 hG hS hx hb hml hown hts (c_X6_personOf l hl0 p0 hJ hBX hBS) (cwV 1 hts gX6_setLoud_X6_personOf rfl rfl rfl (by decide +kernel) ⟨Nat.le_of_ble_eq_true rfl, Nat.le_of_ble_eq_true rfl⟩) (za_recv (q := (RX6, TX6, 11)) hK hG 0 0 ⟨by omega, rfl⟩ rfl rfl rfl) rfl hl rfl (Nat.le_of_ble_eq_true rfl) dX6_setLoud_2 ⟨Nat.le_of_ble_eq_true rfl, Nat.le_of_ble_eq_true rfl⟩ (fun En ce q9 u_2 H locs hp hG hS g1 g2 g3 => ?_) (fun r_2 u_2 H locs hp hG hS => ?_)
  · obtain ⟨rfl, h1, rfl⟩ := hp
    exact vx_out (fun x h => (htb x h).elim) hlocks g1 g2 g3 (fun t ht hW => ⟨(_, _), (Or.inl ⟨rfl, by unfold zo_set; rw [if_pos h1], rfl⟩), ⟨rfl, by show za_G E b _ t.heap; rw [ht]; exact hG⟩, hS.F ht⟩) hS.2.2 (by omega) (by omega)
  · obtain ⟨rfl, h1, rfl⟩ := hp
    refine lv_astore_n (lv' := [(3, .ref (ad 8 (zs_ix p0))), (0, .ref (ad 0 0)), (1, .int p0), (2, .int p1)]) hx hb dX6_setLoud_5 rfl hl (by decide) rfl (fun ls hl => ?_)
    refine zb_bipush (n := 99) hx hb dX6_setLoud_6 (by decide) ?_
    refine lv_iload_n hx hb dX6_setLoud_8 rfl (lv_at hl 3 rfl) ?_
    refine zc_xSv (As := [.int (nI 99), .int p1]) (rest := []) hK hZ hb0 hG hS hx hb hml hown hts (c_X6_requireUpTo l hl0 99 p1 (by decide)) (cwS 2 hts gX6_setLoud_X6_requireUpTo rfl rfl rfl (by decide +kernel) ⟨Nat.le_of_ble_eq_true rfl, Nat.le_of_ble_eq_true rfl⟩) rfl hl rfl (Nat.le_of_ble_eq_true rfl) dX6_setLoud_9 ⟨Nat.le_of_ble_eq_true rfl, Nat.le_of_ble_eq_true rfl⟩ (fun En ce q9 u_9 H locs hp hG hS g1 g2 g3 => ?_) (fun u_9 H locs hp hG hS => ?_)
    · obtain ⟨rfl, h2, rfl⟩ := hp
      exact vx_out (fun x h => (htb x h).elim) hlocks g1 g2 g3 (fun t ht hW => ⟨(_, _), (Or.inr ⟨rfl, by unfold zo_set; rw [if_neg (fun h => h h1), if_pos h2], rfl⟩), ⟨rfl, by show za_G E b _ t.heap; rw [ht]; exact hG⟩, hS.F ht⟩) hS.2.2 (by omega) (by omega)
    · obtain ⟨h2, rfl⟩ := hp
      rcases zs_ixc p1 with ⟨-, e⟩ | ⟨n, hn, rfl, e⟩; · exact absurd h2 (by rw [e]; decide)
      have hl : lv_has ls 5 [(3, .ref (ad 8 (zs_ix p0))), (0, .ref (ad 0 0)), (1, .int p0), (2, .int (nI n))] := hl
      refine lv_aload_n hx hb dX6_setLoud_12 rfl (lv_at hl 0 rfl) ?_
      refine zg_PE_loudness hx hb hts hinX2 hown hf73 hK hG (zs_ix p0) (hJ.pe h1) (n := S.1 3 (zs_ix p0) 0) rfl dX6_setLoud_13 ?_
      refine lv_istore (lv' := [(4, .int (nI (S.1 3 (zs_ix p0) 0))), (3, .ref (ad 8 (zs_ix p0))), (0, .ref (ad 0 0)), (1, .int p0), (2, .int (nI n))]) hx hb dX6_setLoud_16 hl (by decide) rfl (fun ls hl => ?_)
      refine lv_aload_n hx hb dX6_setLoud_18 rfl (lv_at hl 1 rfl) ?_
      refine lv_iload_n hx hb dX6_setLoud_19 rfl (lv_at hl 4 rfl) ?_
      refine zp_PE_loudness hx hb hts hinX2 hown hf73 hS hK hG (zs_ix p0) (hJ.pe h1) dX6_setLoud_20 (fun H locs hG hS => ?_)
      refine lv_iload hx hb dX6_setLoud_23 (lv_at hl 0 rfl) ?_
      exact vx_ret (zm_iret hx hb hr hlocks hG hS (by omega) (by omega) ⟨by unfold zo_set; rw [if_neg (fun h => h h1), if_neg (fun h => h h2)], rfl, by rw [e]⟩ dX6_setLoud_25)

set_option maxRecDepth 100000 in
set_option maxHeartbeats 4000000 in
theorem c_X6_people (l : Launch) {E : za_E} {b : Nat} {ad : za_Ad} {S X T Y : za_S} {ow : Int64} {dw : UInt64}  (hC : zs_C S X) : Met l yX6_people wsX6_people ({ frames := 0, cells := 0, slots := 0, locals := 0 } : Room) (za_Pc E b (ad, S, X, T, Y, ow, dw) [.ref (ad 0 0)]) (za_Qi E b (fun r u => r = nI (S.1 0 0 0) ∧ u = (ad, S, X, T, Y, ow, dw))) (0) (0) (za_A b) := by
  refine zm_met (ccm := cX6_people) (maxL := 1) (ret := (some .int)) (ws' := _) (own := RX6) (lv := [(0, .ref (ad 0 0))]) (by decide) rfl rfl rfl (by simp [lg_sl, Value.category]) ?_
  intro pg en s m below meth c hx hb hml hr hown hts hlocks hK hZ hb0 hG hS ls hl
  have hf47 := hts (.fieldLink RX6 47 "VideoBridge" "peopleCount" "I") (by decide +kernel)
  have hinX6 : ∀ w ∈ u_ws RX6 TX6 11, w ∈ wsX6_people := by decide +kernel
  skip
  obtain ⟨hI, hJ, hBX, hok, hRw⟩ := hC
  have hBS := hI.B
  have hc1 := hI.c
  refine lv_aload_n hx hb dX6_people_0 rfl (lv_at hl 0 rfl) ?_
  refine zg_BR_peopleCount hx hb hts hinX6 hown hf47 hK hG (n := S.1 0 0 0) rfl dX6_people_1 ?_
  exact zm_iret hx hb hr hlocks hG hS (by omega) (by omega) ⟨rfl, rfl⟩ dX6_people_4

set_option maxRecDepth 100000 in
set_option maxHeartbeats 4000000 in
theorem c_X6_rooms (l : Launch) {E : za_E} {b : Nat} {ad : za_Ad} {S X T Y : za_S} {ow : Int64} {dw : UInt64}  (hC : zs_C S X) : Met l yX6_rooms wsX6_rooms ({ frames := 0, cells := 0, slots := 0, locals := 0 } : Room) (za_Pc E b (ad, S, X, T, Y, ow, dw) [.ref (ad 0 0)]) (za_Qi E b (fun r u => r = nI (S.1 0 1 0) ∧ u = (ad, S, X, T, Y, ow, dw))) (0) (0) (za_A b) := by
  refine zm_met (ccm := cX6_rooms) (maxL := 1) (ret := (some .int)) (ws' := _) (own := RX6) (lv := [(0, .ref (ad 0 0))]) (by decide) rfl rfl rfl (by simp [lg_sl, Value.category]) ?_
  intro pg en s m below meth c hx hb hml hr hown hts hlocks hK hZ hb0 hG hS ls hl
  have hf146 := hts (.fieldLink RX6 146 "VideoBridge" "roomCount" "I") (by decide +kernel)
  have hinX6 : ∀ w ∈ u_ws RX6 TX6 11, w ∈ wsX6_rooms := by decide +kernel
  skip
  obtain ⟨hI, hJ, hBX, hok, hRw⟩ := hC
  have hBS := hI.B
  have hc1 := hI.c
  refine lv_aload_n hx hb dX6_rooms_0 rfl (lv_at hl 0 rfl) ?_
  refine zg_BR_roomCount hx hb hts hinX6 hown hf146 hK hG (n := S.1 0 1 0) rfl dX6_rooms_1 ?_
  exact zm_iret hx hb hr hlocks hG hS (by omega) (by omega) ⟨rfl, rfl⟩ dX6_rooms_4

set_option maxRecDepth 100000 in
set_option maxHeartbeats 4000000 in
theorem c_X6_tick (l : Launch) {E : za_E} {b : Nat} {ad : za_Ad} {S X T Y : za_S} {ow : Int64} {dw : UInt64}  (hC : zs_C S X) : Met l yX6_tick wsX6_tick ({ frames := 0, cells := 0, slots := 0, locals := 0 } : Room) (za_Pc E b (ad, S, X, T, Y, ow, dw) [.ref (ad 0 0)]) (za_Qi E b (fun r u => r = nI (S.1 0 3 0) ∧ u = (ad, S, X, T, Y, ow, dw))) (0) (0) (za_A b) := by
  refine zm_met (ccm := cX6_tick) (maxL := 1) (ret := (some .int)) (ws' := _) (own := RX6) (lv := [(0, .ref (ad 0 0))]) (by decide) rfl rfl rfl (by simp [lg_sl, Value.category]) ?_
  intro pg en s m below meth c hx hb hml hr hown hts hlocks hK hZ hb0 hG hS ls hl
  have hf156 := hts (.fieldLink RX6 156 "VideoBridge" "ticksPassed" "I") (by decide +kernel)
  have hinX6 : ∀ w ∈ u_ws RX6 TX6 11, w ∈ wsX6_tick := by decide +kernel
  skip
  obtain ⟨hI, hJ, hBX, hok, hRw⟩ := hC
  have hBS := hI.B
  have hc1 := hI.c
  refine lv_aload_n hx hb dX6_tick_0 rfl (lv_at hl 0 rfl) ?_
  refine zg_BR_ticksPassed hx hb hts hinX6 hown hf156 hK hG (n := S.1 0 3 0) rfl dX6_tick_1 ?_
  exact zm_iret hx hb hr hlocks hG hS (by omega) (by omega) ⟨rfl, rfl⟩ dX6_tick_4

set_option maxRecDepth 100000 in
set_option maxHeartbeats 4000000 in
theorem c_X6_sent (l : Launch) {E : za_E} {b : Nat} {ad : za_Ad} {S X T Y : za_S} {ow : Int64} {dw : UInt64}  (hC : zs_C S X) : Met l yX6_sent wsX6_sent ({ frames := 0, cells := 0, slots := 0, locals := 0 } : Room) (za_Pc E b (ad, S, X, T, Y, ow, dw) [.ref (ad 0 0)]) (za_Ql E b (fun r u => r = lN (S.1 0 4 0) ∧ u = (ad, S, X, T, Y, ow, dw))) (0) (0) (za_A b) := by
  refine zm_met (ccm := cX6_sent) (maxL := 1) (ret := (some .long)) (ws' := _) (own := RX6) (lv := [(0, .ref (ad 0 0))]) (by decide) rfl rfl rfl (by simp [lg_sl, Value.category]) ?_
  intro pg en s m below meth c hx hb hml hr hown hts hlocks hK hZ hb0 hG hS ls hl
  have hf206 := hts (.fieldLink RX6 206 "VideoBridge" "sentSoFar" "J") (by decide +kernel)
  have hinX6 : ∀ w ∈ u_ws RX6 TX6 11, w ∈ wsX6_sent := by decide +kernel
  skip
  obtain ⟨hI, hJ, hBX, hok, hRw⟩ := hC
  have hBS := hI.B
  have hc1 := hI.c
  refine lv_aload_n hx hb dX6_sent_0 rfl (lv_at hl 0 rfl) ?_
  refine zg_BR_sentSoFar hx hb hts hinX6 hown hf206 hK hG (n := S.1 0 4 0) rfl dX6_sent_1 ?_
  exact zm_lret hx hb hr hlocks hG hS (by omega) (by omega) ⟨rfl, rfl⟩ dX6_sent_4

set_option maxRecDepth 100000 in
set_option maxHeartbeats 4000000 in
theorem c_X6_changes (l : Launch) {E : za_E} {b : Nat} {ad : za_Ad} {S X T Y : za_S} {ow : Int64} {dw : UInt64}  (hC : zs_C S X) : Met l yX6_changes wsX6_changes ({ frames := 0, cells := 0, slots := 0, locals := 0 } : Room) (za_Pc E b (ad, S, X, T, Y, ow, dw) [.ref (ad 0 0)]) (za_Qi E b (fun r u => r = nI (S.1 7 8 0) ∧ u = (ad, S, X, T, Y, ow, dw))) (0) (0) (za_A b) := by
  refine zm_met (ccm := cX6_changes) (maxL := 1) (ret := (some .int)) (ws' := _) (own := RX6) (lv := [(0, .ref (ad 0 0))]) (by decide) rfl rfl rfl (by simp [lg_sl, Value.category]) ?_
  intro pg en s m below meth c hx hb hml hr hown hts hlocks hK hZ hb0 hG hS ls hl
  have hf161 := hts (.fieldLink RX6 161 "VideoBridge$Row" "size" "I") (by decide +kernel)
  have hf32 := hts (.fieldLink RX6 32 "VideoBridge" "turns" "LVideoBridge$Row;") (by decide +kernel)
  have hinX6 : ∀ w ∈ u_ws RX6 TX6 11, w ∈ wsX6_changes := by decide +kernel
  have hinX5 : ∀ w ∈ u_ws RX5 TX5 3, w ∈ wsX6_changes := by decide +kernel
  skip
  obtain ⟨hI, hJ, hBX, hok, hRw⟩ := hC
  have hBS := hI.B
  have hc1 := hI.c
  refine lv_aload_n hx hb dX6_changes_0 rfl (lv_at hl 0 rfl) ?_
  refine zg_BR_turns hx hb hts hinX6 hown hf32 hK hG dX6_changes_1 ?_
  refine zg_RW_size hx hb hts hinX5 hown hf161 hK hG 8 (Or.inr rfl) (n := S.1 7 8 0) rfl dX6_changes_4 ?_
  exact zm_iret hx hb hr hlocks hG hS (by omega) (by omega) ⟨rfl, rfl⟩ dX6_changes_7

set_option maxRecDepth 100000 in
set_option maxHeartbeats 4000000 in
theorem c_X6_roomOf (l : Launch) (hl0 : l.stackTraces = false) {E : za_E} {b : Nat} {ad : za_Ad} {S X T Y : za_S} {ow : Int64} {dw : UInt64} (p0 : Int32) (hC : zs_C S X)  : vx_Met l yX6_roomOf wsX6_roomOf ({ frames := 7, cells := 3, slots := 18, locals := 104 } : Room) (za_Pc E b (ad, S, X, T, Y, ow, dw) [.ref (ad 0 0), .int p0]) (za_Qi E b (fun r u => zo_po S (zs_ix p0) 0 = 0 ∧ r = nI ((S.2 0 (zs_ix p0) 0).getD 0) ∧ u = (ad, S, X, T, Y, ow, dw))) (za_X E b (fun En u => (En = "java/util/NoSuchElementException" ∧ zo_po S (zs_ix p0) 0 = 1 ∧ u = (ad, S, X, T, Y, ow, dw)) ∨ (En = "java/lang/IllegalStateException" ∧ zo_po S (zs_ix p0) 0 = 2 ∧ u = (ad, S, X, T, Y, ow, dw)))) (3) (18) (za_A b) := by
  refine zx_met (ccm := cX6_roomOf) (maxL := 3) (ret := (some .int)) (ws' := _) (own := RX6) (lv := [(0, .ref (ad 0 0)), (1, .int p0)]) (by decide) rfl rfl rfl (by simp [lg_sl, Value.category]) ?_
  intro pg en s m below meth c hx hb hml hr hown hts hlocks htb hK hZ hb0 hG hS ls hl
  have hf86 := hts (.fieldLink RX6 86 "VideoBridge$Room" "number" "I") (by decide +kernel)
  have hf93 := hts (.fieldLink RX6 93 "VideoBridge$Person" "room" "LVideoBridge$Room;") (by decide +kernel)
  have hiISE := hts (.initialized "java/lang/IllegalStateException") (by decide +kernel)
  have hk51 := hts (.classLink RX6 51 "java/lang/IllegalStateException") (by decide +kernel)
  have hinX2 : ∀ w ∈ u_ws RX2 TX2 8, w ∈ wsX6_roomOf := by decide +kernel
  have hinX4 : ∀ w ∈ u_ws RX4 TX4 6, w ∈ wsX6_roomOf := by decide +kernel
  skip
  obtain ⟨hI, hJ, hBX, hok, hRw⟩ := hC
  have hBS := hI.B
  have hc1 := hI.c
  refine lv_aload_n hx hb dX6_roomOf_0 rfl (lv_at hl 0 rfl) ?_
  refine lv_iload_n hx hb dX6_roomOf_1 rfl (lv_at hl 1 rfl) ?_
  refine zc_xVq (κ := 8) (As := [.int p0]) (rest := []) hK hZ hb0 hG hS hx hb hml hown hts (c_X6_personOf l hl0 p0 hJ hBX hBS) (cwV 1 hts gX6_roomOf_X6_personOf rfl rfl rfl (by decide +kernel) ⟨Nat.le_of_ble_eq_true rfl, Nat.le_of_ble_eq_true rfl⟩) (za_recv (q := (RX6, TX6, 11)) hK hG 0 0 ⟨by omega, rfl⟩ rfl rfl rfl) rfl hl rfl (Nat.le_of_ble_eq_true rfl) dX6_roomOf_2 ⟨Nat.le_of_ble_eq_true rfl, Nat.le_of_ble_eq_true rfl⟩ (fun En ce q9 u_2 H locs hp hG hS g1 g2 g3 => ?_) (fun r_2 u_2 H locs hp hG hS => ?_)
  · obtain ⟨rfl, h1, rfl⟩ := hp
    exact vx_out (fun x h => (htb x h).elim) hlocks g1 g2 g3 (fun t ht hW => ⟨(_, _), (Or.inl ⟨rfl, by unfold zo_po; rw [if_pos h1], rfl⟩), ⟨rfl, by show za_G E b _ t.heap; rw [ht]; exact hG⟩, hS.F ht⟩) hS.2.2 (by omega) (by omega)
  · obtain ⟨rfl, h1, rfl⟩ := hp
    refine zg_PE_room hx hb hts hinX2 hown hf93 hK hG (zs_ix p0) (hJ.pe h1) (r := S.2 0 (zs_ix p0) 0) rfl dX6_roomOf_5 ?_
    refine zb_ostore_n (ad := ad) (κ := 9) (r := S.2 0 (zs_ix p0) 0) (lv' := [(2, za_o ad 9 (S.2 0 (zs_ix p0) 0)), (0, .ref (ad 0 0)), (1, .int p0)]) hx hb dX6_roomOf_8 rfl hl (by decide) rfl (fun ls hl => ?_)
    refine zb_oload_n hx hb dX6_roomOf_9 rfl (lv_at hl 0 rfl) ?_
    refine zb_ifnonnull (κ := 9) (r := S.2 0 (zs_ix p0) 0) (tgt := 23) hx hb dX6_roomOf_10 (by decide) (fun x_1 c_10 => ?_) (fun c_10 => ?_)
    · rw [c_10] at hl
      have hv_2 : ∀ z, S.2 0 (zs_ix p0) 0 = some z → z < X.1 5 1 0 := (fun x hx => hJ.ro (hI.ro h1 hx))
      refine lv_aload_n hx hb dX6_roomOf_23 rfl (lv_at hl 0 rfl) ?_
      refine zg_RM_number hx hb hts hinX4 hown hf86 hK hG x_1 (hv_2 x_1 c_10) dX6_roomOf_24 ?_
      exact vx_ret (zm_iret hx hb hr hlocks hG hS (by omega) (by omega) ⟨by unfold zo_po; rw [if_neg (fun h => h h1), if_neg (by rw [c_10]; exact fun h => by cases h)], by rw [c_10]; rfl, rfl⟩ dX6_roomOf_27)
    · rw [c_10] at hl
      exact zt_throw (cls := "java/lang/IllegalStateException") (text := "the person is in no room") (ik := 51) (is := 109) (ic := 55) hx hb hl0 hZ hG hS hml hl hown htb hlocks (by simp [za_exs]) (by simp [za_texts]) (by decide +kernel) hk51 hiISE (fun w h => hts w (by simp only [wsX6_roomOf, List.mem_cons, List.mem_append, h, or_true, true_or])) zt_ng_ISE zt_gd_ISE dX6_roomOf_13 dX6_roomOf_16 dX6_roomOf_17 dX6_roomOf_19 dX6_roomOf_22 (by decide) (by decide) (by first | (show _ + 1 ≤ _; omega) | decide) (by first | (show _ + 6 ≤ _; omega) | decide) (by omega) (by omega) (Or.inr ⟨rfl, by unfold zo_po; rw [if_neg (fun h => h h1), if_pos c_10], rfl⟩)

set_option maxRecDepth 100000 in
set_option maxHeartbeats 4000000 in
theorem c_X6_inRoom (l : Launch) (hl0 : l.stackTraces = false) {E : za_E} {b : Nat} {ad : za_Ad} {S X T Y : za_S} {ow : Int64} {dw : UInt64} (p0 : Int32) (hC : zs_C S X)  : vx_Met l yX6_inRoom wsX6_inRoom ({ frames := 7, cells := 3, slots := 18, locals := 104 } : Room) (za_Pc E b (ad, S, X, T, Y, ow, dw) [.ref (ad 0 0), .int p0]) (za_Qi E b (fun r u => zo_r S (zs_ix p0) = 0 ∧ r = nI (S.1 5 (zs_ix p0) 0) ∧ u = (ad, S, X, T, Y, ow, dw))) (za_X E b (fun En u => (En = "java/lang/IndexOutOfBoundsException" ∧ zo_r S (zs_ix p0) = 1 ∧ u = (ad, S, X, T, Y, ow, dw)))) (3) (18) (za_A b) := by
  refine zx_met (ccm := cX6_inRoom) (maxL := 2) (ret := (some .int)) (ws' := _) (own := RX6) (lv := [(0, .ref (ad 0 0)), (1, .int p0)]) (by decide) rfl rfl rfl (by simp [lg_sl, Value.category]) ?_
  intro pg en s m below meth c hx hb hml hr hown hts hlocks htb hK hZ hb0 hG hS ls hl
  have hf106 := hts (.fieldLink RX6 106 "VideoBridge$Room" "size" "I") (by decide +kernel)
  have hinX4 : ∀ w ∈ u_ws RX4 TX4 6, w ∈ wsX6_inRoom := by decide +kernel
  skip
  obtain ⟨hI, hJ, hBX, hok, hRw⟩ := hC
  have hBS := hI.B
  have hc1 := hI.c
  refine lv_aload_n hx hb dX6_inRoom_0 rfl (lv_at hl 0 rfl) ?_
  refine lv_iload_n hx hb dX6_inRoom_1 rfl (lv_at hl 1 rfl) ?_
  refine zc_xVq (κ := 9) (As := [.int p0]) (rest := []) hK hZ hb0 hG hS hx hb hml hown hts (c_X6_roomNumbered l hl0 p0 hJ hBX hBS) (cwV 1 hts gX6_inRoom_X6_roomNumbered rfl rfl rfl (by decide +kernel) ⟨Nat.le_of_ble_eq_true rfl, Nat.le_of_ble_eq_true rfl⟩) (za_recv (q := (RX6, TX6, 11)) hK hG 0 0 ⟨by omega, rfl⟩ rfl rfl rfl) rfl hl rfl (Nat.le_of_ble_eq_true rfl) dX6_inRoom_2 ⟨Nat.le_of_ble_eq_true rfl, Nat.le_of_ble_eq_true rfl⟩ (fun En ce q9 u_2 H locs hp hG hS g1 g2 g3 => ?_) (fun r_2 u_2 H locs hp hG hS => ?_)
  · obtain ⟨rfl, h1, rfl⟩ := hp
    exact vx_out (fun x h => (htb x h).elim) hlocks g1 g2 g3 (fun t ht hW => ⟨(_, _), ⟨rfl, by unfold zo_r; rw [if_pos h1], rfl⟩, ⟨rfl, by show za_G E b _ t.heap; rw [ht]; exact hG⟩, hS.F ht⟩) hS.2.2 (by omega) (by omega)
  · obtain ⟨rfl, h1, rfl⟩ := hp
    refine zg_RM_size hx hb hts hinX4 hown hf106 hK hG (zs_ix p0) (hJ.ro h1) (n := S.1 5 (zs_ix p0) 0) rfl dX6_inRoom_5 ?_
    exact vx_ret (zm_iret hx hb hr hlocks hG hS (by omega) (by omega) ⟨by unfold zo_r; rw [if_neg (fun h => h h1)], rfl, rfl⟩ dX6_inRoom_8)

set_option maxRecDepth 100000 in
set_option maxHeartbeats 4000000 in
theorem c_X6_challenge (l : Launch) (hl0 : l.stackTraces = false) {E : za_E} {b : Nat} {ad : za_Ad} {S X T Y : za_S} {ow : Int64} {dw : UInt64} (p0 : Int32) (hC : zs_C S X)  : vx_Met l yX6_challenge wsX6_challenge ({ frames := 7, cells := 3, slots := 18, locals := 104 } : Room) (za_Pc E b (ad, S, X, T, Y, ow, dw) [.ref (ad 0 0), .int p0]) (za_Qi E b (fun r u => zo_r S (zs_ix p0) = 0 ∧ r = nI (S.1 6 (zs_ix p0) 0) ∧ u = (ad, S, X, T, Y, ow, dw))) (za_X E b (fun En u => (En = "java/lang/IndexOutOfBoundsException" ∧ zo_r S (zs_ix p0) = 1 ∧ u = (ad, S, X, T, Y, ow, dw)))) (3) (18) (za_A b) := by
  refine zx_met (ccm := cX6_challenge) (maxL := 2) (ret := (some .int)) (ws' := _) (own := RX6) (lv := [(0, .ref (ad 0 0)), (1, .int p0)]) (by decide) rfl rfl rfl (by simp [lg_sl, Value.category]) ?_
  intro pg en s m below meth c hx hb hml hr hown hts hlocks htb hK hZ hb0 hG hS ls hl
  have hf170 := hts (.fieldLink RX6 170 "VideoBridge$Room" "challengeTicks" "I") (by decide +kernel)
  have hinX4 : ∀ w ∈ u_ws RX4 TX4 6, w ∈ wsX6_challenge := by decide +kernel
  skip
  obtain ⟨hI, hJ, hBX, hok, hRw⟩ := hC
  have hBS := hI.B
  have hc1 := hI.c
  refine lv_aload_n hx hb dX6_challenge_0 rfl (lv_at hl 0 rfl) ?_
  refine lv_iload_n hx hb dX6_challenge_1 rfl (lv_at hl 1 rfl) ?_
  refine zc_xVq (κ := 9) (As := [.int p0]) (rest := []) hK hZ hb0 hG hS hx hb hml hown hts (c_X6_roomNumbered l hl0 p0 hJ hBX hBS) (cwV 1 hts gX6_challenge_X6_roomNumbered rfl rfl rfl (by decide +kernel) ⟨Nat.le_of_ble_eq_true rfl, Nat.le_of_ble_eq_true rfl⟩) (za_recv (q := (RX6, TX6, 11)) hK hG 0 0 ⟨by omega, rfl⟩ rfl rfl rfl) rfl hl rfl (Nat.le_of_ble_eq_true rfl) dX6_challenge_2 ⟨Nat.le_of_ble_eq_true rfl, Nat.le_of_ble_eq_true rfl⟩ (fun En ce q9 u_2 H locs hp hG hS g1 g2 g3 => ?_) (fun r_2 u_2 H locs hp hG hS => ?_)
  · obtain ⟨rfl, h1, rfl⟩ := hp
    exact vx_out (fun x h => (htb x h).elim) hlocks g1 g2 g3 (fun t ht hW => ⟨(_, _), ⟨rfl, by unfold zo_r; rw [if_pos h1], rfl⟩, ⟨rfl, by show za_G E b _ t.heap; rw [ht]; exact hG⟩, hS.F ht⟩) hS.2.2 (by omega) (by omega)
  · obtain ⟨rfl, h1, rfl⟩ := hp
    refine zg_RM_challengeTicks hx hb hts hinX4 hown hf170 hK hG (zs_ix p0) (hJ.ro h1) (n := S.1 6 (zs_ix p0) 0) rfl dX6_challenge_5 ?_
    exact vx_ret (zm_iret hx hb hr hlocks hG hS (by omega) (by omega) ⟨by unfold zo_r; rw [if_neg (fun h => h h1)], rfl, rfl⟩ dX6_challenge_8)

set_option maxRecDepth 100000 in
set_option maxHeartbeats 4000000 in
theorem c_X6_speaker (l : Launch) (hl0 : l.stackTraces = false) {E : za_E} {b : Nat} {ad : za_Ad} {S X T Y : za_S} {ow : Int64} {dw : UInt64} (p0 : Int32) (hC : zs_C S X)  : vx_Met l yX6_speaker wsX6_speaker ({ frames := 7, cells := 3, slots := 18, locals := 104 } : Room) (za_Pc E b (ad, S, X, T, Y, ow, dw) [.ref (ad 0 0), .int p0]) (za_Qi E b (fun r u => zo_rs S (zs_ix p0) = 0 ∧ r = nI ((S.2 3 (zs_ix p0) 0).getD 0) ∧ u = (ad, S, X, T, Y, ow, dw))) (za_X E b (fun En u => (En = "java/lang/IndexOutOfBoundsException" ∧ zo_rs S (zs_ix p0) = 1 ∧ u = (ad, S, X, T, Y, ow, dw)) ∨ (En = "java/util/NoSuchElementException" ∧ zo_rs S (zs_ix p0) = 2 ∧ u = (ad, S, X, T, Y, ow, dw)))) (3) (18) (za_A b) := by
  refine zx_met (ccm := cX6_speaker) (maxL := 3) (ret := (some .int)) (ws' := _) (own := RX6) (lv := [(0, .ref (ad 0 0)), (1, .int p0)]) (by decide) rfl rfl rfl (by simp [lg_sl, Value.category]) ?_
  intro pg en s m below meth c hx hb hml hr hown hts hlocks htb hK hZ hb0 hG hS ls hl
  have hf145 := hts (.fieldLink RX6 145 "VideoBridge$Person" "number" "I") (by decide +kernel)
  have hf165 := hts (.fieldLink RX6 165 "VideoBridge$Room" "speaker" "LVideoBridge$Person;") (by decide +kernel)
  have hiNSE := hts (.initialized "java/util/NoSuchElementException") (by decide +kernel)
  have hk149 := hts (.classLink RX6 149 "java/util/NoSuchElementException") (by decide +kernel)
  have hinX2 : ∀ w ∈ u_ws RX2 TX2 8, w ∈ wsX6_speaker := by decide +kernel
  have hinX4 : ∀ w ∈ u_ws RX4 TX4 6, w ∈ wsX6_speaker := by decide +kernel
  skip
  obtain ⟨hI, hJ, hBX, hok, hRw⟩ := hC
  have hBS := hI.B
  have hc1 := hI.c
  refine lv_aload_n hx hb dX6_speaker_0 rfl (lv_at hl 0 rfl) ?_
  refine lv_iload_n hx hb dX6_speaker_1 rfl (lv_at hl 1 rfl) ?_
  refine zc_xVq (κ := 9) (As := [.int p0]) (rest := []) hK hZ hb0 hG hS hx hb hml hown hts (c_X6_roomNumbered l hl0 p0 hJ hBX hBS) (cwV 1 hts gX6_speaker_X6_roomNumbered rfl rfl rfl (by decide +kernel) ⟨Nat.le_of_ble_eq_true rfl, Nat.le_of_ble_eq_true rfl⟩) (za_recv (q := (RX6, TX6, 11)) hK hG 0 0 ⟨by omega, rfl⟩ rfl rfl rfl) rfl hl rfl (Nat.le_of_ble_eq_true rfl) dX6_speaker_2 ⟨Nat.le_of_ble_eq_true rfl, Nat.le_of_ble_eq_true rfl⟩ (fun En ce q9 u_2 H locs hp hG hS g1 g2 g3 => ?_) (fun r_2 u_2 H locs hp hG hS => ?_)
  · obtain ⟨rfl, h1, rfl⟩ := hp
    exact vx_out (fun x h => (htb x h).elim) hlocks g1 g2 g3 (fun t ht hW => ⟨(_, _), (Or.inl ⟨rfl, by unfold zo_rs; rw [if_pos h1], rfl⟩), ⟨rfl, by show za_G E b _ t.heap; rw [ht]; exact hG⟩, hS.F ht⟩) hS.2.2 (by omega) (by omega)
  · obtain ⟨rfl, h1, rfl⟩ := hp
    refine zg_RM_speaker hx hb hts hinX4 hown hf165 hK hG (zs_ix p0) (hJ.ro h1) (r := S.2 3 (zs_ix p0) 0) rfl dX6_speaker_5 ?_
    refine zb_ostore_n (ad := ad) (κ := 8) (r := S.2 3 (zs_ix p0) 0) (lv' := [(2, za_o ad 8 (S.2 3 (zs_ix p0) 0)), (0, .ref (ad 0 0)), (1, .int p0)]) hx hb dX6_speaker_8 rfl hl (by decide) rfl (fun ls hl => ?_)
    refine zb_oload_n hx hb dX6_speaker_9 rfl (lv_at hl 0 rfl) ?_
    refine zb_ifnonnull (κ := 8) (r := S.2 3 (zs_ix p0) 0) (tgt := 23) hx hb dX6_speaker_10 (by decide) (fun x_1 c_10 => ?_) (fun c_10 => ?_)
    · rw [c_10] at hl
      have hv_2 : ∀ z, S.2 3 (zs_ix p0) 0 = some z → z < X.1 5 0 0 := (fun x hx => hJ.pe (hI.sp h1 hx).1)
      refine lv_aload_n hx hb dX6_speaker_23 rfl (lv_at hl 0 rfl) ?_
      refine zg_PE_number hx hb hts hinX2 hown hf145 hK hG x_1 (hv_2 x_1 c_10) dX6_speaker_24 ?_
      exact vx_ret (zm_iret hx hb hr hlocks hG hS (by omega) (by omega) ⟨by unfold zo_rs; rw [if_neg (fun h => h h1), if_neg (by rw [c_10]; exact fun h => by cases h)], by rw [c_10]; rfl, rfl⟩ dX6_speaker_27)
    · rw [c_10] at hl
      exact zt_throwX (cls := "java/util/NoSuchElementException") (text := "there is no speaker") (ik := 149) (is := 168) (ic := 153) hx hb hl0 hZ hG hS hml hl hown htb hlocks (by simp [za_exs]) (by simp [za_texts]) (by decide +kernel) hk149 hiNSE (fun w h => hts w (by simp only [wsX6_speaker, List.mem_cons, List.mem_append, h, or_true, true_or])) zt_ng_NSE zt_gd_NSE dX6_speaker_13 dX6_speaker_16 dX6_speaker_17 dX6_speaker_19 dX6_speaker_22 (by decide) (by decide) (by first | (show _ + 1 ≤ _; omega) | decide) (by first | (show _ + 6 ≤ _; omega) | decide) (by omega) (by omega) (Or.inr ⟨rfl, by unfold zo_rs; rw [if_neg (fun h => h h1), if_pos c_10], rfl⟩)

set_option maxRecDepth 100000 in
set_option maxHeartbeats 4000000 in
theorem c_X4_atR (l : Launch) {E : za_E} {b : Nat} {ad : za_Ad} {S X T Y : za_S} {ow : Int64} {dw : UInt64} (r : Nat) (x : Int32) (hr9 : r < X.1 5 1 0) (hBX : zs_B X) (hBS : zs_B S) : Met l yX4_at wsX4_at ({ frames := 0, cells := 0, slots := 0, locals := 0 } : Room) (za_Pc E b (ad, S, X, T, Y, ow, dw) [.ref (ad 9 r), .int x]) (za_Qq E b 8 (fun r9 u => r9 = zs_at S r (zs_ix x) ∧ u = (ad, S, X, T, Y, ow, dw))) (0) (0) (za_A b) := by
  refine zm_met (ccm := cX4_at) (maxL := 2) (ret := (some (.object "VideoBridge$Person"))) (ws' := _) (own := RX4) (lv := [(0, .ref (ad 9 r)), (1, .int x)]) (by decide) rfl rfl rfl (by simp [lg_sl, Value.category]) ?_
  intro pg en s m below meth c hx hb hml hr hown hts hlocks hK hZ hb0 hG hS ls hl
  have hf11 := hts (.fieldLink RX4 11 "VideoBridge$Room" "order" "[LVideoBridge$Person;") (by decide +kernel)
  have hf21 := hts (.fieldLink RX4 21 "VideoBridge$Room" "size" "I") (by decide +kernel)
  have hinX4 : ∀ w ∈ u_ws RX4 TX4 6, w ∈ wsX4_at := by decide +kernel
  skip
  have hb5 := hBS 5 r 0
  rcases zs_ixc x with ⟨hx0, hx1⟩ | ⟨n, hxn, rfl, hx1⟩
  · have hl : lv_has ls 2 [(0, .ref (ad 9 r)), (1, .int x)] := hl
    refine lv_iload_n hx hb dX4_at_0 rfl (lv_at hl 1 rfl) ?_
    refine lv_if_lt (tgt := 21) hx hb dX4_at_1 (by decide) (fun c_1 => ?_) (fun c_1 => ?_)
    · refine lv_null hx hb dX4_at_21 ?_
      refine zb_goto (tgt := 31) hx hb dX4_at_22 (by decide) ?_
      exact zm_qret (r := none) hx hb hr hlocks hG hS (by omega) (by omega) ⟨by rw [hx1]; unfold zs_at; first | rw [if_neg (by omega)] | rw [if_pos (by omega)], rfl⟩ dX4_at_31
    · exact absurd hx0 c_1
  · have hl : lv_has ls 2 [(0, .ref (ad 9 r)), (1, .int (nI n))] := hl
    refine lv_iload_n hx hb dX4_at_0 rfl (lv_at hl 1 rfl) ?_
    refine zb_if_lt (x := n) (tgt := 21) hx hb (by omega) dX4_at_1 (by decide) ?_
    refine lv_iload_n hx hb dX4_at_4 rfl (lv_at hl 1 rfl) ?_
    refine lv_aload_n hx hb dX4_at_5 rfl (lv_at hl 0 rfl) ?_
    refine zg_RM_size hx hb hts hinX4 hown hf21 hK hG r hr9 (n := S.1 5 r 0) rfl dX4_at_6 ?_
    refine zb_icmp_ge (x := n) (y := S.1 5 r 0) (tgt := 21) hx hb (by omega) (by have := hBS 5 r 0; omega) dX4_at_9 (by decide) (fun c_9 => ?_) (fun c_9 => ?_)
    · refine lv_null hx hb dX4_at_21 ?_
      refine zb_goto (tgt := 31) hx hb dX4_at_22 (by decide) ?_
      exact zm_qret (r := none) hx hb hr hlocks hG hS (by omega) (by omega) ⟨by rw [hx1]; unfold zs_at; first | rw [if_neg (by omega)] | rw [if_pos (by omega)], rfl⟩ dX4_at_31
    · refine lv_iload_n hx hb dX4_at_12 rfl (lv_at hl 1 rfl) ?_
      refine lv_aload_n hx hb dX4_at_13 rfl (lv_at hl 0 rfl) ?_
      refine zg_RM_order hx hb hts hinX4 hown hf11 hK hG r hr9 dX4_at_14 ?_
      refine zl_OR hx hb hK hG r hr9 dX4_at_17 ?_
      refine zb_icmp_lt (x := n) (y := 10) (tgt := 25) hx hb (by omega) (by omega) dX4_at_18 (by decide) (fun c_18 => ?_) (fun c_18 => ?_)
      · refine lv_aload_n hx hb dX4_at_25 rfl (lv_at hl 0 rfl) ?_
        refine zg_RM_order hx hb hts hinX4 hown hf11 hK hG r hr9 dX4_at_26 ?_
        refine lv_iload_n hx hb dX4_at_29 rfl (lv_at hl 1 rfl) ?_
        refine zld_OR (r := S.2 2 r n) hx hb hK hG r hr9 (by omega) rfl dX4_at_30 ?_
        exact zm_qret (r := S.2 2 r n) hx hb hr hlocks hG hS (by omega) (by omega) ⟨by rw [hx1]; unfold zs_at; first | rw [if_neg (by omega)] | rw [if_pos (by omega)], rfl⟩ dX4_at_31
      · refine lv_null hx hb dX4_at_21 ?_
        refine zb_goto (tgt := 31) hx hb dX4_at_22 (by decide) ?_
        exact zm_qret (r := none) hx hb hr hlocks hG hS (by omega) (by omega) ⟨by rw [hx1]; unfold zs_at; first | rw [if_neg (by omega)] | rw [if_pos (by omega)], rfl⟩ dX4_at_31

set_option maxRecDepth 100000 in
set_option maxHeartbeats 4000000 in
theorem c_X6_personAt (l : Launch) (hl0 : l.stackTraces = false) {E : za_E} {b : Nat} {ad : za_Ad} {S X T Y : za_S} {ow : Int64} {dw : UInt64} (p0 p1 : Int32) (hC : zs_C S X)  : vx_Met l yX6_personAt wsX6_personAt ({ frames := 7, cells := 3, slots := 18, locals := 104 } : Room) (za_Pc E b (ad, S, X, T, Y, ow, dw) [.ref (ad 0 0), .int p0, .int p1]) (za_Qi E b (fun r u => zo_ra S (zs_ix p0) (zs_ix p1) = 0 ∧ r = nI ((zs_at S (zs_ix p0) (zs_ix p1)).getD 0) ∧ u = (ad, S, X, T, Y, ow, dw))) (za_X E b (fun En u => (En = "java/lang/IndexOutOfBoundsException" ∧ zo_ra S (zs_ix p0) (zs_ix p1) = 1 ∧ u = (ad, S, X, T, Y, ow, dw)) ∨ (En = "java/util/NoSuchElementException" ∧ zo_ra S (zs_ix p0) (zs_ix p1) = 2 ∧ u = (ad, S, X, T, Y, ow, dw)))) (3) (18) (za_A b) := by
  refine zx_met (ccm := cX6_personAt) (maxL := 4) (ret := (some .int)) (ws' := _) (own := RX6) (lv := [(0, .ref (ad 0 0)), (1, .int p0), (2, .int p1)]) (by decide) rfl rfl rfl (by simp [lg_sl, Value.category]) ?_
  intro pg en s m below meth c hx hb hml hr hown hts hlocks htb hK hZ hb0 hG hS ls hl
  have hf145 := hts (.fieldLink RX6 145 "VideoBridge$Person" "number" "I") (by decide +kernel)
  have hiNSE := hts (.initialized "java/util/NoSuchElementException") (by decide +kernel)
  have hk149 := hts (.classLink RX6 149 "java/util/NoSuchElementException") (by decide +kernel)
  have hinX2 : ∀ w ∈ u_ws RX2 TX2 8, w ∈ wsX6_personAt := by decide +kernel
  skip
  obtain ⟨hI, hJ, hBX, hok, hRw⟩ := hC
  have hBS := hI.B
  have hc1 := hI.c
  refine lv_aload_n hx hb dX6_personAt_0 rfl (lv_at hl 0 rfl) ?_
  refine lv_iload_n hx hb dX6_personAt_1 rfl (lv_at hl 1 rfl) ?_
  refine zc_xVq (κ := 9) (As := [.int p0]) (rest := []) hK hZ hb0 hG hS hx hb hml hown hts (c_X6_roomNumbered l hl0 p0 hJ hBX hBS) (cwV 1 hts gX6_personAt_X6_roomNumbered rfl rfl rfl (by decide +kernel) ⟨Nat.le_of_ble_eq_true rfl, Nat.le_of_ble_eq_true rfl⟩) (za_recv (q := (RX6, TX6, 11)) hK hG 0 0 ⟨by omega, rfl⟩ rfl rfl rfl) rfl hl rfl (Nat.le_of_ble_eq_true rfl) dX6_personAt_2 ⟨Nat.le_of_ble_eq_true rfl, Nat.le_of_ble_eq_true rfl⟩ (fun En ce q9 u_2 H locs hp hG hS g1 g2 g3 => ?_) (fun r_2 u_2 H locs hp hG hS => ?_)
  · obtain ⟨rfl, h1, rfl⟩ := hp
    exact vx_out (fun x h => (htb x h).elim) hlocks g1 g2 g3 (fun t ht hW => ⟨(_, _), (Or.inl ⟨rfl, by unfold zo_ra; rw [if_pos h1], rfl⟩), ⟨rfl, by show za_G E b _ t.heap; rw [ht]; exact hG⟩, hS.F ht⟩) hS.2.2 (by omega) (by omega)
  · obtain ⟨rfl, h1, rfl⟩ := hp
    refine lv_iload_n hx hb dX6_personAt_5 rfl (lv_at hl 2 rfl) ?_
    refine zc_Vq (κ := 8) (As := [.int p1]) (rest := []) hK hZ hb0 hG hS hx hb hml hown hts (c_X4_atR l (zs_ix p0) p1 (hJ.ro h1) hBX hBS) (cwV 1 hts gX6_personAt_X4_at rfl rfl rfl (by decide +kernel) ⟨Nat.le_of_ble_eq_true rfl, Nat.le_of_ble_eq_true rfl⟩) (za_recv (q := (RX4, TX4, 6)) hK hG 9 (zs_ix p0) (show (zs_ix p0) < X.1 5 1 0 from (hJ.ro h1)) rfl rfl rfl) rfl hl rfl (Nat.le_of_ble_eq_true rfl) dX6_personAt_6 ⟨Nat.le_of_ble_eq_true rfl, Nat.le_of_ble_eq_true rfl⟩ (fun r_6 u_6 H locs hp hG hS => ?_)
    obtain ⟨rfl, rfl⟩ := hp
    refine zb_ostore_n (ad := ad) (κ := 8) (r := zs_at S (zs_ix p0) (zs_ix p1)) (lv' := [(3, za_o ad 8 (zs_at S (zs_ix p0) (zs_ix p1))), (0, .ref (ad 0 0)), (1, .int p0), (2, .int p1)]) hx hb dX6_personAt_9 rfl hl (by decide) rfl (fun ls hl => ?_)
    refine zb_oload_n hx hb dX6_personAt_10 rfl (lv_at hl 0 rfl) ?_
    refine zb_ifnonnull (κ := 8) (r := zs_at S (zs_ix p0) (zs_ix p1)) (tgt := 24) hx hb dX6_personAt_11 (by decide) (fun x_1 c_11 => ?_) (fun c_11 => ?_)
    · rw [c_11] at hl
      have hv_2 : ∀ z, zs_at S (zs_ix p0) (zs_ix p1) = some z → z < X.1 5 0 0 := (fun x hx => hJ.pe (zs_at_v hI hx))
      refine lv_aload_n hx hb dX6_personAt_24 rfl (lv_at hl 0 rfl) ?_
      refine zg_PE_number hx hb hts hinX2 hown hf145 hK hG x_1 (hv_2 x_1 c_11) dX6_personAt_25 ?_
      exact vx_ret (zm_iret hx hb hr hlocks hG hS (by omega) (by omega) ⟨by unfold zo_ra; rw [if_neg (fun h => h h1), if_neg (by rw [c_11]; exact fun h => by cases h)], by rw [c_11]; rfl, rfl⟩ dX6_personAt_28)
    · rw [c_11] at hl
      exact zt_throwX (cls := "java/util/NoSuchElementException") (text := "there is no such index") (ik := 149) (is := 151) (ic := 153) hx hb hl0 hZ hG hS hml hl hown htb hlocks (by simp [za_exs]) (by simp [za_texts]) (by decide +kernel) hk149 hiNSE (fun w h => hts w (by simp only [wsX6_personAt, List.mem_cons, List.mem_append, h, or_true, true_or])) zt_ng_NSE zt_gd_NSE dX6_personAt_14 dX6_personAt_17 dX6_personAt_18 dX6_personAt_20 dX6_personAt_23 (by decide) (by decide) (by first | (show _ + 1 ≤ _; omega) | decide) (by first | (show _ + 6 ≤ _; omega) | decide) (by omega) (by omega) (Or.inr ⟨rfl, by unfold zo_ra; rw [if_neg (fun h => h h1), if_pos c_11], rfl⟩)

set_option maxRecDepth 100000 in
set_option maxHeartbeats 4000000 in
theorem c_X6_hears (l : Launch) (hl0 : l.stackTraces = false) {E : za_E} {b : Nat} {ad : za_Ad} {S X T Y : za_S} {ow : Int64} {dw : UInt64} (p0 p1 : Int32) (hC : zs_C S X)  : vx_Met l yX6_hears wsX6_hears ({ frames := 7, cells := 3, slots := 18, locals := 104 } : Room) (za_Pc E b (ad, S, X, T, Y, ow, dw) [.ref (ad 0 0), .int p0, .int p1]) (za_Qi E b (fun r u => zo_pp S (zs_ix p0) (zs_ix p1) = 0 ∧ r = nI (if zo_he S (zs_ix p0) (zs_ix p1) = true then 1 else 0) ∧ u = (ad, S, X, T, Y, ow, dw))) (za_X E b (fun En u => (En = "java/util/NoSuchElementException" ∧ zo_pp S (zs_ix p0) (zs_ix p1) = 1 ∧ u = (ad, S, X, T, Y, ow, dw)))) (3) (18) (za_A b) := by
  refine zx_met (ccm := cX6_hears) (maxL := 5) (ret := (some .boolean)) (ws' := _) (own := RX6) (lv := [(0, .ref (ad 0 0)), (1, .int p0), (2, .int p1)]) (by decide) rfl rfl rfl (by simp [lg_sl, Value.category]) ?_
  intro pg en s m below meth c hx hb hml hr hown hts hlocks htb hK hZ hb0 hG hS ls hl
  have hf73 := hts (.fieldLink RX6 73 "VideoBridge$Person" "loudness" "I") (by decide +kernel)
  have hinX2 : ∀ w ∈ u_ws RX2 TX2 8, w ∈ wsX6_hears := by decide +kernel
  skip
  obtain ⟨hI, hJ, hBX, hok, hRw⟩ := hC
  have hBS := hI.B
  have hc1 := hI.c
  refine lv_aload_n hx hb dX6_hears_0 rfl (lv_at hl 0 rfl) ?_
  refine lv_iload_n hx hb dX6_hears_1 rfl (lv_at hl 1 rfl) ?_
  refine zc_xVq (κ := 8) (As := [.int p0]) (rest := []) hK hZ hb0 hG hS hx hb hml hown hts (c_X6_personOf l hl0 p0 hJ hBX hBS) (cwV 1 hts gX6_hears_X6_personOf rfl rfl rfl (by decide +kernel) ⟨Nat.le_of_ble_eq_true rfl, Nat.le_of_ble_eq_true rfl⟩) (za_recv (q := (RX6, TX6, 11)) hK hG 0 0 ⟨by omega, rfl⟩ rfl rfl rfl) rfl hl rfl (Nat.le_of_ble_eq_true rfl) dX6_hears_2 ⟨Nat.le_of_ble_eq_true rfl, Nat.le_of_ble_eq_true rfl⟩ (fun En ce q9 u_2 H locs hp hG hS g1 g2 g3 => ?_) (fun r_2 u_2 H locs hp hG hS => ?_)
  · obtain ⟨rfl, h1, rfl⟩ := hp
    exact vx_out (fun x h => (htb x h).elim) hlocks g1 g2 g3 (fun t ht hW => ⟨(_, _), ⟨rfl, by unfold zo_pp; rw [if_pos h1], rfl⟩, ⟨rfl, by show za_G E b _ t.heap; rw [ht]; exact hG⟩, hS.F ht⟩) hS.2.2 (by omega) (by omega)
  · obtain ⟨rfl, h1, rfl⟩ := hp
    refine lv_astore_n (lv' := [(3, .ref (ad 8 (zs_ix p0))), (0, .ref (ad 0 0)), (1, .int p0), (2, .int p1)]) hx hb dX6_hears_5 rfl hl (by decide) rfl (fun ls hl => ?_)
    refine lv_aload_n hx hb dX6_hears_6 rfl (lv_at hl 1 rfl) ?_
    refine lv_iload_n hx hb dX6_hears_7 rfl (lv_at hl 3 rfl) ?_
    refine zc_xVq (κ := 8) (As := [.int p1]) (rest := []) hK hZ hb0 hG hS hx hb hml hown hts (c_X6_personOf l hl0 p1 hJ hBX hBS) (cwV 1 hts gX6_hears_X6_personOf rfl rfl rfl (by decide +kernel) ⟨Nat.le_of_ble_eq_true rfl, Nat.le_of_ble_eq_true rfl⟩) (za_recv (q := (RX6, TX6, 11)) hK hG 0 0 ⟨by omega, rfl⟩ rfl rfl rfl) rfl hl rfl (Nat.le_of_ble_eq_true rfl) dX6_hears_8 ⟨Nat.le_of_ble_eq_true rfl, Nat.le_of_ble_eq_true rfl⟩ (fun En ce q9 u_8 H locs hp hG hS g1 g2 g3 => ?_) (fun r_8 u_8 H locs hp hG hS => ?_)
    · obtain ⟨rfl, h2, rfl⟩ := hp
      exact vx_out (fun x h => (htb x h).elim) hlocks g1 g2 g3 (fun t ht hW => ⟨(_, _), ⟨rfl, by unfold zo_pp; rw [if_neg (fun h => h h1), if_pos h2], rfl⟩, ⟨rfl, by show za_G E b _ t.heap; rw [ht]; exact hG⟩, hS.F ht⟩) hS.2.2 (by omega) (by omega)
    · obtain ⟨rfl, h2, rfl⟩ := hp
      refine lv_astore (lv' := [(4, .ref (ad 8 (zs_ix p1))), (3, .ref (ad 8 (zs_ix p0))), (0, .ref (ad 0 0)), (1, .int p0), (2, .int p1)]) hx hb dX6_hears_11 hl (by decide) rfl (fun ls hl => ?_)
      refine lv_aload_n hx hb dX6_hears_13 rfl (lv_at hl 1 rfl) ?_
      refine lv_aload hx hb dX6_hears_14 (lv_at hl 0 rfl) ?_
      refine zb_acmp_eq (tgt := 42) hx hb hG 8 (by decide) (some (zs_ix p0)) (some (zs_ix p1)) (by rintro _ ⟨⟩; exact (hJ.pe h1)) (by rintro _ ⟨⟩; exact (hJ.pe h2)) dX6_hears_16 (by decide) (fun c_16 => ?_) (fun c_16 => ?_)
      · refine zb_iconst (n := 0) hx hb dX6_hears_42 (by decide) ?_
        exact vx_ret (zm_zret hx hb hr rfl hlocks hG hS (by omega) (by omega) ⟨by unfold zo_pp; rw [if_neg (fun h => h h1), if_neg (fun h => h h2)], by first | (rw [zo_he_t (fun h => c_16 (by rw [h])) (zs_b1 c_25) c_35]; rfl) | (rw [zo_he_1 c_35]; rfl) | (rw [zo_he_2 (zs_b0 c_25)]; rfl) | (rw [zo_he_3 (Option.some.inj c_16)]; rfl), rfl⟩ dX6_hears_43)
      · refine lv_aload_n hx hb dX6_hears_19 rfl (lv_at hl 1 rfl) ?_
        refine lv_aload hx hb dX6_hears_20 (lv_at hl 0 rfl) ?_
        refine zc_Si (As := [.ref (ad 8 (zs_ix p0)), .ref (ad 8 (zs_ix p1))]) (rest := []) hK hZ hb0 hG hS hx hb hml hown hts (c_X6_areTogether l (some (zs_ix p0)) (some (zs_ix p1)) (by rintro _ ⟨⟩; exact hJ.pe h1) (by rintro _ ⟨⟩; exact hJ.pe h2) (fun a r ha e => hJ.ro (hI.ro (by rw [hJ.2.2.2.1] at ha; exact ha) e))) (cwS 2 hts gX6_hears_X6_areTogether rfl rfl rfl (by decide +kernel) ⟨Nat.le_of_ble_eq_true rfl, Nat.le_of_ble_eq_true rfl⟩) rfl hl rfl (Nat.le_of_ble_eq_true rfl) dX6_hears_22 ⟨Nat.le_of_ble_eq_true rfl, Nat.le_of_ble_eq_true rfl⟩ (fun r_22 u_22 H locs hp hG hS => ?_)
        obtain ⟨rfl, rfl⟩ := hp
        have hbl := zs_bl (zs_tg S (some (zs_ix p0)) (some (zs_ix p1)))
        refine zb_if_eq (x := if zs_tg S (some (zs_ix p0)) (some (zs_ix p1)) = true then 1 else 0) (tgt := 42) hx hb (by omega) dX6_hears_25 (by decide) (fun c_25 => ?_) (fun c_25 => ?_)
        · refine zb_iconst (n := 0) hx hb dX6_hears_42 (by decide) ?_
          exact vx_ret (zm_zret hx hb hr rfl hlocks hG hS (by omega) (by omega) ⟨by unfold zo_pp; rw [if_neg (fun h => h h1), if_neg (fun h => h h2)], by first | (rw [zo_he_t (fun h => c_16 (by rw [h])) (zs_b1 c_25) c_35]; rfl) | (rw [zo_he_1 c_35]; rfl) | (rw [zo_he_2 (zs_b0 c_25)]; rfl) | (rw [zo_he_3 (Option.some.inj c_16)]; rfl), rfl⟩ dX6_hears_43)
        · refine lv_aload hx hb dX6_hears_28 (lv_at hl 0 rfl) ?_
          refine zg_PE_loudness hx hb hts hinX2 hown hf73 hK hG (zs_ix p1) (hJ.pe h2) (n := S.1 3 (zs_ix p1) 0) rfl dX6_hears_30 ?_
          refine zb_bipush (n := 10) hx hb dX6_hears_33 (by decide) ?_
          refine zb_icmp_lt (x := S.1 3 (zs_ix p1) 0) (y := 10) (tgt := 42) hx hb (by have := hBS 3 (zs_ix p1) 0; omega) (by omega) dX6_hears_35 (by decide) (fun c_35 => ?_) (fun c_35 => ?_)
          · refine zb_iconst (n := 0) hx hb dX6_hears_42 (by decide) ?_
            exact vx_ret (zm_zret hx hb hr rfl hlocks hG hS (by omega) (by omega) ⟨by unfold zo_pp; rw [if_neg (fun h => h h1), if_neg (fun h => h h2)], by first | (rw [zo_he_t (fun h => c_16 (by rw [h])) (zs_b1 c_25) c_35]; rfl) | (rw [zo_he_1 c_35]; rfl) | (rw [zo_he_2 (zs_b0 c_25)]; rfl) | (rw [zo_he_3 (Option.some.inj c_16)]; rfl), rfl⟩ dX6_hears_43)
          · refine zb_iconst (n := 1) hx hb dX6_hears_38 (by decide) ?_
            refine zb_goto (tgt := 43) hx hb dX6_hears_39 (by decide) ?_
            exact vx_ret (zm_zret hx hb hr rfl hlocks hG hS (by omega) (by omega) ⟨by unfold zo_pp; rw [if_neg (fun h => h h1), if_neg (fun h => h h2)], by first | (rw [zo_he_t (fun h => c_16 (by rw [h])) (zs_b1 c_25) c_35]; rfl) | (rw [zo_he_1 c_35]; rfl) | (rw [zo_he_2 (zs_b0 c_25)]; rfl) | (rw [zo_he_3 (Option.some.inj c_16)]; rfl), rfl⟩ dX6_hears_43)

set_option maxRecDepth 100000 in
set_option maxHeartbeats 4000000 in
theorem c_X6_talked (l : Launch) (hl0 : l.stackTraces = false) {E : za_E} {b : Nat} {ad : za_Ad} {S X T Y : za_S} {ow : Int64} {dw : UInt64} (p0 : Int32) (hC : zs_C S X)  : vx_Met l yX6_talked wsX6_talked ({ frames := 7, cells := 3, slots := 18, locals := 104 } : Room) (za_Pc E b (ad, S, X, T, Y, ow, dw) [.ref (ad 0 0), .int p0]) (za_Ql E b (fun r u => zo_p S (zs_ix p0) = 0 ∧ r = lN (S.1 4 (zs_ix p0) 0) ∧ u = (ad, S, X, T, Y, ow, dw))) (za_X E b (fun En u => (En = "java/util/NoSuchElementException" ∧ zo_p S (zs_ix p0) = 1 ∧ u = (ad, S, X, T, Y, ow, dw)))) (3) (18) (za_A b) := by
  refine zx_met (ccm := cX6_talked) (maxL := 2) (ret := (some .long)) (ws' := _) (own := RX6) (lv := [(0, .ref (ad 0 0)), (1, .int p0)]) (by decide) rfl rfl rfl (by simp [lg_sl, Value.category]) ?_
  intro pg en s m below meth c hx hb hml hr hown hts hlocks htb hK hZ hb0 hG hS ls hl
  have hf173 := hts (.fieldLink RX6 173 "VideoBridge$Person" "talked" "J") (by decide +kernel)
  have hinX2 : ∀ w ∈ u_ws RX2 TX2 8, w ∈ wsX6_talked := by decide +kernel
  skip
  obtain ⟨hI, hJ, hBX, hok, hRw⟩ := hC
  have hBS := hI.B
  have hc1 := hI.c
  refine lv_aload_n hx hb dX6_talked_0 rfl (lv_at hl 0 rfl) ?_
  refine lv_iload_n hx hb dX6_talked_1 rfl (lv_at hl 1 rfl) ?_
  refine zc_xVq (κ := 8) (As := [.int p0]) (rest := []) hK hZ hb0 hG hS hx hb hml hown hts (c_X6_personOf l hl0 p0 hJ hBX hBS) (cwV 1 hts gX6_talked_X6_personOf rfl rfl rfl (by decide +kernel) ⟨Nat.le_of_ble_eq_true rfl, Nat.le_of_ble_eq_true rfl⟩) (za_recv (q := (RX6, TX6, 11)) hK hG 0 0 ⟨by omega, rfl⟩ rfl rfl rfl) rfl hl rfl (Nat.le_of_ble_eq_true rfl) dX6_talked_2 ⟨Nat.le_of_ble_eq_true rfl, Nat.le_of_ble_eq_true rfl⟩ (fun En ce q9 u_2 H locs hp hG hS g1 g2 g3 => ?_) (fun r_2 u_2 H locs hp hG hS => ?_)
  · obtain ⟨rfl, h1, rfl⟩ := hp
    exact vx_out (fun x h => (htb x h).elim) hlocks g1 g2 g3 (fun t ht hW => ⟨(_, _), ⟨rfl, by unfold zo_p; rw [if_pos h1], rfl⟩, ⟨rfl, by show za_G E b _ t.heap; rw [ht]; exact hG⟩, hS.F ht⟩) hS.2.2 (by omega) (by omega)
  · obtain ⟨rfl, h1, rfl⟩ := hp
    refine zg_PE_talked hx hb hts hinX2 hown hf173 hK hG (zs_ix p0) (hJ.pe h1) (n := S.1 4 (zs_ix p0) 0) rfl dX6_talked_5 ?_
    exact vx_ret (zm_lret hx hb hr hlocks hG hS (by omega) (by omega) ⟨by unfold zo_p; rw [if_neg (fun h => h h1)], rfl, rfl⟩ dX6_talked_8)

set_option maxRecDepth 100000 in
set_option maxHeartbeats 4000000 in
theorem c_X5_atR (l : Launch) {E : za_E} {b : Nat} {ad : za_Ad} {S X T Y : za_S} {ow : Int64} {dw : UInt64} (k : Nat) (x : Int32) (hk : k < X.1 5 2 0 ∨ k = 8) (hn : zs_ix x < S.1 7 k 0) (hlen : S.1 7 k 0 ≤ X.1 4 k 0) (hBX : zs_B X) (hBS : zs_B S) : Met l yX5_at wsX5_at ({ frames := 0, cells := 0, slots := 0, locals := 0 } : Room) (za_Pc E b (ad, S, X, T, Y, ow, dw) [.ref (ad 12 k), .int x]) (za_Qi E b (fun r u => r = za_enc (S.2 5 k (zs_ix x)) ∧ u = (ad, S, X, T, Y, ow, dw))) (0) (0) (za_A b) := by
  refine zm_met (ccm := cX5_at) (maxL := 2) (ret := (some .int)) (ws' := _) (own := RX5) (lv := [(0, .ref (ad 12 k)), (1, .int x)]) (by decide) rfl rfl rfl (by simp [lg_sl, Value.category]) ?_
  intro pg en s m below meth c hx hb hml hr hown hts hlocks hK hZ hb0 hG hS ls hl
  have hf19 := hts (.fieldLink RX5 19 "VideoBridge$Row" "size" "I") (by decide +kernel)
  have hf9 := hts (.fieldLink RX5 9 "VideoBridge$Row" "numbers" "[I") (by decide +kernel)
  have hinX5 : ∀ w ∈ u_ws RX5 TX5 3, w ∈ wsX5_at := by decide +kernel
  skip
  have hb7 := hBS 7 k 0
  rcases zs_ixc x with ⟨hx0, hx1⟩ | ⟨n, hxn, rfl, hx1⟩
  · have hl : lv_has ls 2 [(0, .ref (ad 12 k)), (1, .int x)] := hl
    refine lv_iload_n hx hb dX5_at_0 rfl (lv_at hl 1 rfl) ?_
    refine lv_if_lt (tgt := 21) hx hb dX5_at_1 (by decide) (fun c_1 => ?_) (fun c_1 => ?_)
    · rw [hx1] at hn; omega
    · exact absurd hx0 c_1
  · have hl : lv_has ls 2 [(0, .ref (ad 12 k)), (1, .int (nI n))] := hl
    refine lv_iload_n hx hb dX5_at_0 rfl (lv_at hl 1 rfl) ?_
    refine zb_if_lt (x := n) (tgt := 21) hx hb (by omega) dX5_at_1 (by decide) ?_
    refine lv_iload_n hx hb dX5_at_4 rfl (lv_at hl 1 rfl) ?_
    refine lv_aload_n hx hb dX5_at_5 rfl (lv_at hl 0 rfl) ?_
    refine zg_RW_size hx hb hts hinX5 hown hf19 hK hG k hk (n := S.1 7 k 0) rfl dX5_at_6 ?_
    refine zb_icmp_ge (x := n) (y := S.1 7 k 0) (tgt := 21) hx hb (by omega) (by have := hBS 7 k 0; omega) dX5_at_9 (by decide) (fun c_9 => ?_) (fun c_9 => ?_)
    · omega
    · refine lv_iload_n hx hb dX5_at_12 rfl (lv_at hl 1 rfl) ?_
      refine lv_aload_n hx hb dX5_at_13 rfl (lv_at hl 0 rfl) ?_
      refine zg_RW_numbers hx hb hts hinX5 hown hf9 hK hG k hk dX5_at_14 ?_
      refine zl_NU hx hb hK hG k hk dX5_at_17 ?_
      refine zb_icmp_lt (x := n) (y := X.1 4 k 0) (tgt := 25) hx hb (by omega) (by have := hBX 4 k 0; omega) dX5_at_18 (by decide) (fun c_18 => ?_) (fun c_18 => ?_)
      · refine lv_aload_n hx hb dX5_at_25 rfl (lv_at hl 0 rfl) ?_
        refine zg_RW_numbers hx hb hts hinX5 hown hf9 hK hG k hk dX5_at_26 ?_
        refine lv_iload_n hx hb dX5_at_29 rfl (lv_at hl 1 rfl) ?_
        refine zld_NU (r := S.2 5 k n) hx hb hK hG k hk (by have := hBX 4 k 0; omega) (by omega) rfl dX5_at_30 ?_
        exact zm_iret hx hb hr hlocks hG hS (by omega) (by omega) ⟨by rw [hx1], rfl⟩ dX5_at_31
      · omega

set_option maxRecDepth 100000 in
set_option maxHeartbeats 4000000 in
theorem c_X6_turnAt (l : Launch) (hl0 : l.stackTraces = false) {E : za_E} {b : Nat} {ad : za_Ad} {S X T Y : za_S} {ow : Int64} {dw : UInt64} (p0 : Int32) (hC : zs_C S X)  : vx_Met l yX6_turnAt wsX6_turnAt ({ frames := 6, cells := 3, slots := 18, locals := 82 } : Room) (za_Pc E b (ad, S, X, T, Y, ow, dw) [.ref (ad 0 0), .int p0]) (za_Qi E b (fun r u => zo_t S (zs_ix p0) = 0 ∧ r = za_enc (S.2 5 8 (zs_ix p0)) ∧ u = (ad, S, X, T, Y, ow, dw))) (za_X E b (fun En u => (En = "java/util/NoSuchElementException" ∧ zo_t S (zs_ix p0) = 1 ∧ u = (ad, S, X, T, Y, ow, dw)))) (3) (18) (za_A b) := by
  refine zx_met (ccm := cX6_turnAt) (maxL := 2) (ret := (some .int)) (ws' := _) (own := RX6) (lv := [(0, .ref (ad 0 0)), (1, .int p0)]) (by decide) rfl rfl rfl (by simp [lg_sl, Value.category]) ?_
  intro pg en s m below meth c hx hb hml hr hown hts hlocks htb hK hZ hb0 hG hS ls hl
  have hf32 := hts (.fieldLink RX6 32 "VideoBridge" "turns" "LVideoBridge$Row;") (by decide +kernel)
  have hiNSE := hts (.initialized "java/util/NoSuchElementException") (by decide +kernel)
  have hk149 := hts (.classLink RX6 149 "java/util/NoSuchElementException") (by decide +kernel)
  have hinX6 : ∀ w ∈ u_ws RX6 TX6 11, w ∈ wsX6_turnAt := by decide +kernel
  skip
  obtain ⟨hI, hJ, hBX, hok, hRw⟩ := hC
  have hBS := hI.B
  have hc1 := hI.c
  refine lv_aload_n hx hb dX6_turnAt_0 rfl (lv_at hl 0 rfl) ?_
  refine zg_BR_turns hx hb hts hinX6 hown hf32 hK hG dX6_turnAt_1 ?_
  refine lv_iload_n hx hb dX6_turnAt_4 rfl (lv_at hl 1 rfl) ?_
  refine zc_Vi (As := [.int p0]) (rest := []) hK hZ hb0 hG hS hx hb hml hown hts (c_X5_has l 8 p0 (Or.inr rfl) hBX hBS) (cwV 1 hts gX6_turnAt_X5_has rfl rfl rfl (by decide +kernel) ⟨Nat.le_of_ble_eq_true rfl, Nat.le_of_ble_eq_true rfl⟩) (za_recv (q := (RX5, TX5, 3)) hK hG 12 8 (show 8 < X.1 5 2 0 ∨ 8 = 8 from (Or.inr rfl)) rfl rfl rfl) rfl hl rfl (Nat.le_of_ble_eq_true rfl) dX6_turnAt_5 ⟨Nat.le_of_ble_eq_true rfl, Nat.le_of_ble_eq_true rfl⟩ (fun r_5 u_5 H locs hp hG hS => ?_)
  obtain ⟨rfl, rfl⟩ := hp
  have hbl : (if zs_ix p0 < S.1 7 8 0 then 1 else 0) < 2 ^ 31 := by split <;> decide
  refine zb_if_ne (x := if zs_ix p0 < S.1 7 8 0 then 1 else 0) (tgt := 21) hx hb (by have := hBS 7 8 0; omega) dX6_turnAt_8 (by decide) (fun c_8 => ?_) (fun c_8 => ?_)
  · have hlt : zs_ix p0 < S.1 7 8 0 := Decidable.byContradiction (fun h => c_8 (if_neg h))
    refine lv_aload_n hx hb dX6_turnAt_21 rfl (lv_at hl 0 rfl) ?_
    refine zg_BR_turns hx hb hts hinX6 hown hf32 hK hG dX6_turnAt_22 ?_
    refine lv_iload_n hx hb dX6_turnAt_25 rfl (lv_at hl 1 rfl) ?_
    refine zc_Vi (As := [.int p0]) (rest := []) hK hZ hb0 hG hS hx hb hml hown hts (c_X5_atR l 8 p0 (Or.inr rfl) hlt (hRw 8 (Or.inr rfl)).1 hBX hBS) (cwV 1 hts gX6_turnAt_X5_at rfl rfl rfl (by decide +kernel) ⟨Nat.le_of_ble_eq_true rfl, Nat.le_of_ble_eq_true rfl⟩) (za_recv (q := (RX5, TX5, 3)) hK hG 12 8 (show 8 < X.1 5 2 0 ∨ 8 = 8 from (Or.inr rfl)) rfl rfl rfl) rfl hl rfl (Nat.le_of_ble_eq_true rfl) dX6_turnAt_26 ⟨Nat.le_of_ble_eq_true rfl, Nat.le_of_ble_eq_true rfl⟩ (fun r_26 u_26 H locs hp hG hS => ?_)
    obtain ⟨rfl, rfl⟩ := hp
    exact vx_ret (zm_iret hx hb hr hlocks hG hS (by omega) (by omega) ⟨by unfold zo_t; rw [if_neg (fun h => h hlt)], rfl, rfl⟩ dX6_turnAt_29)
  · exact zt_throwX (cls := "java/util/NoSuchElementException") (text := "there is no such turn") (ik := 149) (is := 181) (ic := 153) hx hb hl0 hZ hG hS hml hl hown htb hlocks (by simp [za_exs]) (by simp [za_texts]) (by decide +kernel) hk149 hiNSE (fun w h => hts w (by simp only [wsX6_turnAt, List.mem_cons, List.mem_append, h, or_true, true_or])) zt_ng_NSE zt_gd_NSE dX6_turnAt_11 dX6_turnAt_14 dX6_turnAt_15 dX6_turnAt_17 dX6_turnAt_20 (by decide) (by decide) (by first | (show _ + 1 ≤ _; omega) | decide) (by first | (show _ + 6 ≤ _; omega) | decide) (by omega) (by omega) ⟨rfl, by unfold zo_t; rw [if_pos (fun h => by rw [if_pos h] at c_8; cases c_8)], rfl⟩

set_option maxRecDepth 100000 in
set_option maxHeartbeats 4000000 in
theorem c_X6_noteAt (l : Launch) (hl0 : l.stackTraces = false) {E : za_E} {b : Nat} {ad : za_Ad} {S X T Y : za_S} {ow : Int64} {dw : UInt64} (p0 p1 : Int32) (hC : zs_C S X)  : vx_Met l yX6_noteAt wsX6_noteAt ({ frames := 7, cells := 3, slots := 18, locals := 104 } : Room) (za_Pc E b (ad, S, X, T, Y, ow, dw) [.ref (ad 0 0), .int p0, .int p1]) (za_Qi E b (fun r u => zo_kn S (zs_ix p0) (zs_ix p1) = 0 ∧ r = za_enc (S.2 5 (zs_ix p0) (zs_ix p1)) ∧ u = (ad, S, X, T, Y, ow, dw))) (za_X E b (fun En u => (En = "java/util/NoSuchElementException" ∧ zo_kn S (zs_ix p0) (zs_ix p1) = 1 ∧ u = (ad, S, X, T, Y, ow, dw)) ∨ (En = "java/lang/IndexOutOfBoundsException" ∧ zo_kn S (zs_ix p0) (zs_ix p1) = 2 ∧ u = (ad, S, X, T, Y, ow, dw)))) (3) (18) (za_A b) := by
  refine zx_met (ccm := cX6_noteAt) (maxL := 4) (ret := (some .int)) (ws' := _) (own := RX6) (lv := [(0, .ref (ad 0 0)), (1, .int p0), (2, .int p1)]) (by decide) rfl rfl rfl (by simp [lg_sl, Value.category]) ?_
  intro pg en s m below meth c hx hb hml hr hown hts hlocks htb hK hZ hb0 hG hS ls hl
  have hf237 := hts (.fieldLink RX6 237 "VideoBridge$Recorder" "notes" "LVideoBridge$Row;") (by decide +kernel)
  have hiIOB := hts (.initialized "java/lang/IndexOutOfBoundsException") (by decide +kernel)
  have hk240 := hts (.classLink RX6 240 "java/lang/IndexOutOfBoundsException") (by decide +kernel)
  have hinX3 : ∀ w ∈ u_ws RX3 TX3 3, w ∈ wsX6_noteAt := by decide +kernel
  skip
  obtain ⟨hI, hJ, hBX, hok, hRw⟩ := hC
  have hBS := hI.B
  have hc1 := hI.c
  refine lv_aload_n hx hb dX6_noteAt_0 rfl (lv_at hl 0 rfl) ?_
  refine lv_iload_n hx hb dX6_noteAt_1 rfl (lv_at hl 1 rfl) ?_
  refine zc_xVq (κ := 11) (As := [.int p0]) (rest := []) hK hZ hb0 hG hS hx hb hml hown hts (c_X6_recorderNumbered l hl0 p0 hJ hBX hBS) (cwV 1 hts gX6_noteAt_X6_recorderNumbered rfl rfl rfl (by decide +kernel) ⟨Nat.le_of_ble_eq_true rfl, Nat.le_of_ble_eq_true rfl⟩) (za_recv (q := (RX6, TX6, 11)) hK hG 0 0 ⟨by omega, rfl⟩ rfl rfl rfl) rfl hl rfl (Nat.le_of_ble_eq_true rfl) dX6_noteAt_2 ⟨Nat.le_of_ble_eq_true rfl, Nat.le_of_ble_eq_true rfl⟩ (fun En ce q9 u_2 H locs hp hG hS g1 g2 g3 => ?_) (fun r_2 u_2 H locs hp hG hS => ?_)
  · obtain ⟨rfl, h1, rfl⟩ := hp
    exact vx_out (fun x h => (htb x h).elim) hlocks g1 g2 g3 (fun t ht hW => ⟨(_, _), (Or.inl ⟨rfl, by unfold zo_kn; rw [if_pos h1], rfl⟩), ⟨rfl, by show za_G E b _ t.heap; rw [ht]; exact hG⟩, hS.F ht⟩) hS.2.2 (by omega) (by omega)
  · obtain ⟨rfl, h1, rfl⟩ := hp
    refine zg_RE_notes hx hb hts hinX3 hown hf237 hK hG (zs_ix p0) (hJ.re h1) dX6_noteAt_5 ?_
    refine lv_astore_n (lv' := [(3, .ref (ad 12 (zs_ix p0))), (0, .ref (ad 0 0)), (1, .int p0), (2, .int p1)]) hx hb dX6_noteAt_8 rfl hl (by decide) rfl (fun ls hl => ?_)
    refine lv_aload_n hx hb dX6_noteAt_9 rfl (lv_at hl 0 rfl) ?_
    refine lv_iload_n hx hb dX6_noteAt_10 rfl (lv_at hl 3 rfl) ?_
    refine zc_Vi (As := [.int p1]) (rest := []) hK hZ hb0 hG hS hx hb hml hown hts (c_X5_has l (zs_ix p0) p1 (Or.inl (hJ.re h1)) hBX hBS) (cwV 1 hts gX6_noteAt_X5_has rfl rfl rfl (by decide +kernel) ⟨Nat.le_of_ble_eq_true rfl, Nat.le_of_ble_eq_true rfl⟩) (za_recv (q := (RX5, TX5, 3)) hK hG 12 (zs_ix p0) (show (zs_ix p0) < X.1 5 2 0 ∨ (zs_ix p0) = 8 from (Or.inl (hJ.re h1))) rfl rfl rfl) rfl hl rfl (Nat.le_of_ble_eq_true rfl) dX6_noteAt_11 ⟨Nat.le_of_ble_eq_true rfl, Nat.le_of_ble_eq_true rfl⟩ (fun r_11 u_11 H locs hp hG hS => ?_)
    obtain ⟨rfl, rfl⟩ := hp
    have hbl : (if zs_ix p1 < S.1 7 (zs_ix p0) 0 then 1 else 0) < 2 ^ 31 := by split <;> decide
    refine zb_if_ne (x := if zs_ix p1 < S.1 7 (zs_ix p0) 0 then 1 else 0) (tgt := 27) hx hb (by have := hBS 7 (zs_ix p0) 0; omega) dX6_noteAt_14 (by decide) (fun c_14 => ?_) (fun c_14 => ?_)
    · have hlt : zs_ix p1 < S.1 7 (zs_ix p0) 0 := Decidable.byContradiction (fun h => c_14 (if_neg h))
      refine lv_aload_n hx hb dX6_noteAt_27 rfl (lv_at hl 0 rfl) ?_
      refine lv_iload_n hx hb dX6_noteAt_28 rfl (lv_at hl 3 rfl) ?_
      refine zc_Vi (As := [.int p1]) (rest := []) hK hZ hb0 hG hS hx hb hml hown hts (c_X5_atR l (zs_ix p0) p1 (Or.inl (hJ.re h1)) hlt (hRw (zs_ix p0) (Or.inl h1)).1 hBX hBS) (cwV 1 hts gX6_noteAt_X5_at rfl rfl rfl (by decide +kernel) ⟨Nat.le_of_ble_eq_true rfl, Nat.le_of_ble_eq_true rfl⟩) (za_recv (q := (RX5, TX5, 3)) hK hG 12 (zs_ix p0) (show (zs_ix p0) < X.1 5 2 0 ∨ (zs_ix p0) = 8 from (Or.inl (hJ.re h1))) rfl rfl rfl) rfl hl rfl (Nat.le_of_ble_eq_true rfl) dX6_noteAt_29 ⟨Nat.le_of_ble_eq_true rfl, Nat.le_of_ble_eq_true rfl⟩ (fun r_29 u_29 H locs hp hG hS => ?_)
      obtain ⟨rfl, rfl⟩ := hp
      exact vx_ret (zm_iret hx hb hr hlocks hG hS (by omega) (by omega) ⟨by unfold zo_kn; rw [if_neg (fun h => h h1), if_neg (fun h => h hlt)], rfl, rfl⟩ dX6_noteAt_32)
    · exact zt_throw (cls := "java/lang/IndexOutOfBoundsException") (text := "there is no such note") (ik := 240) (is := 242) (ic := 244) hx hb hl0 hZ hG hS hml hl hown htb hlocks (by simp [za_exs]) (by simp [za_texts]) (by decide +kernel) hk240 hiIOB (fun w h => hts w (by simp only [wsX6_noteAt, List.mem_cons, List.mem_append, h, or_true, true_or])) zt_ng_IOB zt_gd_IOB dX6_noteAt_17 dX6_noteAt_20 dX6_noteAt_21 dX6_noteAt_23 dX6_noteAt_26 (by decide) (by decide) (by first | (show _ + 1 ≤ _; omega) | decide) (by first | (show _ + 6 ≤ _; omega) | decide) (by omega) (by omega) (Or.inr ⟨rfl, by unfold zo_kn; rw [if_neg (fun h => h h1), if_pos (fun h => by rw [if_pos h] at c_14; cases c_14)], rfl⟩)

set_option maxRecDepth 100000 in
set_option maxHeartbeats 4000000 in
theorem c_X6_layer (l : Launch) (hl0 : l.stackTraces = false) {E : za_E} {b : Nat} {ad : za_Ad} {S X T Y : za_S} {ow : Int64} {dw : UInt64} (p0 p1 : Int32) (hC : zs_C S X)  : vx_Met l yX6_layer wsX6_layer ({ frames := 7, cells := 3, slots := 18, locals := 104 } : Room) (za_Pc E b (ad, S, X, T, Y, ow, dw) [.ref (ad 0 0), .int p0, .int p1]) (za_Qi E b (fun r u => zo_pp S (zs_ix p0) (zs_ix p1) = 0 ∧ r = nI ((zs_ch S (zs_ix p0)).1 (zs_ix p1)) ∧ u = (ad, S, X, T, Y, ow, dw))) (za_X E b (fun En u => (En = "java/util/NoSuchElementException" ∧ zo_pp S (zs_ix p0) (zs_ix p1) = 1 ∧ u = (ad, S, X, T, Y, ow, dw)))) (3) (18) (za_A b) := by
  refine zx_met (ccm := cX6_layer) (maxL := 5) (ret := (some .int)) (ws' := _) (own := RX6) (lv := [(0, .ref (ad 0 0)), (1, .int p0), (2, .int p1)]) (by decide) rfl rfl rfl (by simp [lg_sl, Value.category]) ?_
  intro pg en s m below meth c hx hb hml hr hown hts hlocks htb hK hZ hb0 hG hS ls hl
  have hf145 := hts (.fieldLink RX6 145 "VideoBridge$Person" "number" "I") (by decide +kernel)
  have hf186 := hts (.fieldLink RX6 186 "VideoBridge$Person" "layers" "LVideoBridge$Layers;") (by decide +kernel)
  have hinX2 : ∀ w ∈ u_ws RX2 TX2 8, w ∈ wsX6_layer := by decide +kernel
  skip
  obtain ⟨hI, hJ, hBX, hok, hRw⟩ := hC
  have hBS := hI.B
  have hc1 := hI.c
  refine lv_aload_n hx hb dX6_layer_0 rfl (lv_at hl 0 rfl) ?_
  refine lv_iload_n hx hb dX6_layer_1 rfl (lv_at hl 1 rfl) ?_
  refine zc_xVq (κ := 8) (As := [.int p0]) (rest := []) hK hZ hb0 hG hS hx hb hml hown hts (c_X6_personOf l hl0 p0 hJ hBX hBS) (cwV 1 hts gX6_layer_X6_personOf rfl rfl rfl (by decide +kernel) ⟨Nat.le_of_ble_eq_true rfl, Nat.le_of_ble_eq_true rfl⟩) (za_recv (q := (RX6, TX6, 11)) hK hG 0 0 ⟨by omega, rfl⟩ rfl rfl rfl) rfl hl rfl (Nat.le_of_ble_eq_true rfl) dX6_layer_2 ⟨Nat.le_of_ble_eq_true rfl, Nat.le_of_ble_eq_true rfl⟩ (fun En ce q9 u_2 H locs hp hG hS g1 g2 g3 => ?_) (fun r_2 u_2 H locs hp hG hS => ?_)
  · obtain ⟨rfl, h1, rfl⟩ := hp
    exact vx_out (fun x h => (htb x h).elim) hlocks g1 g2 g3 (fun t ht hW => ⟨(_, _), ⟨rfl, by unfold zo_pp; rw [if_pos h1], rfl⟩, ⟨rfl, by show za_G E b _ t.heap; rw [ht]; exact hG⟩, hS.F ht⟩) hS.2.2 (by omega) (by omega)
  · obtain ⟨rfl, h1, rfl⟩ := hp
    refine lv_astore_n (lv' := [(3, .ref (ad 8 (zs_ix p0))), (0, .ref (ad 0 0)), (1, .int p0), (2, .int p1)]) hx hb dX6_layer_5 rfl hl (by decide) rfl (fun ls hl => ?_)
    refine lv_aload_n hx hb dX6_layer_6 rfl (lv_at hl 1 rfl) ?_
    refine lv_iload_n hx hb dX6_layer_7 rfl (lv_at hl 3 rfl) ?_
    refine zc_xVq (κ := 8) (As := [.int p1]) (rest := []) hK hZ hb0 hG hS hx hb hml hown hts (c_X6_personOf l hl0 p1 hJ hBX hBS) (cwV 1 hts gX6_layer_X6_personOf rfl rfl rfl (by decide +kernel) ⟨Nat.le_of_ble_eq_true rfl, Nat.le_of_ble_eq_true rfl⟩) (za_recv (q := (RX6, TX6, 11)) hK hG 0 0 ⟨by omega, rfl⟩ rfl rfl rfl) rfl hl rfl (Nat.le_of_ble_eq_true rfl) dX6_layer_8 ⟨Nat.le_of_ble_eq_true rfl, Nat.le_of_ble_eq_true rfl⟩ (fun En ce q9 u_8 H locs hp hG hS g1 g2 g3 => ?_) (fun r_8 u_8 H locs hp hG hS => ?_)
    · obtain ⟨rfl, h2, rfl⟩ := hp
      exact vx_out (fun x h => (htb x h).elim) hlocks g1 g2 g3 (fun t ht hW => ⟨(_, _), ⟨rfl, by unfold zo_pp; rw [if_neg (fun h => h h1), if_pos h2], rfl⟩, ⟨rfl, by show za_G E b _ t.heap; rw [ht]; exact hG⟩, hS.F ht⟩) hS.2.2 (by omega) (by omega)
    · obtain ⟨rfl, h2, rfl⟩ := hp
      refine lv_astore (lv' := [(4, .ref (ad 8 (zs_ix p1))), (3, .ref (ad 8 (zs_ix p0))), (0, .ref (ad 0 0)), (1, .int p0), (2, .int p1)]) hx hb dX6_layer_11 hl (by decide) rfl (fun ls hl => ?_)
      refine lv_aload_n hx hb dX6_layer_13 rfl (lv_at hl 1 rfl) ?_
      refine zg_PE_layers hx hb hts hinX2 hown hf186 hK hG (zs_ix p0) (hJ.pe h1) dX6_layer_14 ?_
      refine lv_aload hx hb dX6_layer_17 (lv_at hl 0 rfl) ?_
      refine zg_PE_number hx hb hts hinX2 hown hf145 hK hG (zs_ix p1) (hJ.pe h2) dX6_layer_19 ?_
      refine zc_Vi (As := [.int (nI (zs_ix p1))]) (rest := []) hK hZ hb0 hG hS hx hb hml hown hts (c_X1_of l (zs_ix p0) (zs_ix p1) (Or.inl (hJ.pe h1)) (by omega)) (cwV 1 hts gX6_layer_X1_of rfl rfl rfl (by decide +kernel) ⟨Nat.le_of_ble_eq_true rfl, Nat.le_of_ble_eq_true rfl⟩) (za_recv (q := (RX1, TX1, 1)) hK hG 6 (zs_ix p0) (show (zs_ix p0) < X.1 5 0 0 ∨ (zs_ix p0) = 10 from (Or.inl (hJ.pe h1))) rfl rfl rfl) rfl hl rfl (Nat.le_of_ble_eq_true rfl) dX6_layer_22 ⟨Nat.le_of_ble_eq_true rfl, Nat.le_of_ble_eq_true rfl⟩ (fun r_22 u_22 H locs hp hG hS => ?_)
      obtain ⟨rfl, rfl⟩ := hp
      exact vx_ret (zm_iret hx hb hr hlocks hG hS (by omega) (by omega) ⟨by unfold zo_pp; rw [if_neg (fun h => h h1), if_neg (fun h => h h2)], by rw [hok.1 (zs_ix p0) (by omega) h1 (zs_ix p1) (by omega)], rfl⟩ dX6_layer_25)

set_option maxRecDepth 100000 in
set_option maxHeartbeats 4000000 in
theorem c_X6_layerAnew (l : Launch) (hl0 : l.stackTraces = false) {E : za_E} {b : Nat} {ad : za_Ad} {S X T Y : za_S} {ow : Int64} {dw : UInt64} (p0 p1 : Int32) (hC : zs_C S X)  : vx_Met l yX6_layerAnew wsX6_layerAnew ({ frames := 7, cells := 3, slots := 18, locals := 104 } : Room) (za_Pc E b (ad, S, X, T, Y, ow, dw) [.ref (ad 0 0), .int p0, .int p1]) (za_Qi E b (fun r u => zo_pp S (zs_ix p0) (zs_ix p1) = 0 ∧ r = nI ((zs_ch S (zs_ix p0)).1 (zs_ix p1)) ∧ ∃ X2, u = (ad, S, X2, T, Y, ow, dw) ∧ zs_fr X X2 ∧ zs_B X2)) (za_X E b (fun En u => (En = "java/util/NoSuchElementException" ∧ zo_pp S (zs_ix p0) (zs_ix p1) = 1 ∧ u = (ad, S, X, T, Y, ow, dw)))) (3) (18) (za_A b) := by
  refine zx_met (ccm := cX6_layerAnew) (maxL := 5) (ret := (some .int)) (ws' := _) (own := RX6) (lv := [(0, .ref (ad 0 0)), (1, .int p0), (2, .int p1)]) (by decide) rfl rfl rfl (by simp [lg_sl, Value.category]) ?_
  intro pg en s m below meth c hx hb hml hr hown hts hlocks htb hK hZ hb0 hG hS ls hl
  have hf145 := hts (.fieldLink RX6 145 "VideoBridge$Person" "number" "I") (by decide +kernel)
  have hf199 := hts (.fieldLink RX6 199 "VideoBridge$Chooser" "chosen" "LVideoBridge$Layers;") (by decide +kernel)
  have hf39 := hts (.fieldLink RX6 39 "VideoBridge" "chooser" "LVideoBridge$Chooser;") (by decide +kernel)
  have hinX6 : ∀ w ∈ u_ws RX6 TX6 11, w ∈ wsX6_layerAnew := by decide +kernel
  have hinX0 : ∀ w ∈ u_ws RX0 TX0 4, w ∈ wsX6_layerAnew := by decide +kernel
  have hinX2 : ∀ w ∈ u_ws RX2 TX2 8, w ∈ wsX6_layerAnew := by decide +kernel
  skip
  obtain ⟨hI, hJ, hBX, hok, hRw⟩ := hC
  have hBS := hI.B
  have hc1 := hI.c
  refine lv_aload_n hx hb dX6_layerAnew_0 rfl (lv_at hl 0 rfl) ?_
  refine lv_iload_n hx hb dX6_layerAnew_1 rfl (lv_at hl 1 rfl) ?_
  refine zc_xVq (κ := 8) (As := [.int p0]) (rest := []) hK hZ hb0 hG hS hx hb hml hown hts (c_X6_personOf l hl0 p0 hJ hBX hBS) (cwV 1 hts gX6_layerAnew_X6_personOf rfl rfl rfl (by decide +kernel) ⟨Nat.le_of_ble_eq_true rfl, Nat.le_of_ble_eq_true rfl⟩) (za_recv (q := (RX6, TX6, 11)) hK hG 0 0 ⟨by omega, rfl⟩ rfl rfl rfl) rfl hl rfl (Nat.le_of_ble_eq_true rfl) dX6_layerAnew_2 ⟨Nat.le_of_ble_eq_true rfl, Nat.le_of_ble_eq_true rfl⟩ (fun En ce q9 u_2 H locs hp hG hS g1 g2 g3 => ?_) (fun r_2 u_2 H locs hp hG hS => ?_)
  · obtain ⟨rfl, h1, rfl⟩ := hp
    exact vx_out (fun x h => (htb x h).elim) hlocks g1 g2 g3 (fun t ht hW => ⟨(_, _), ⟨rfl, by unfold zo_pp; rw [if_pos h1], rfl⟩, ⟨rfl, by show za_G E b _ t.heap; rw [ht]; exact hG⟩, hS.F ht⟩) hS.2.2 (by omega) (by omega)
  · obtain ⟨rfl, h1, rfl⟩ := hp
    refine lv_astore_n (lv' := [(3, .ref (ad 8 (zs_ix p0))), (0, .ref (ad 0 0)), (1, .int p0), (2, .int p1)]) hx hb dX6_layerAnew_5 rfl hl (by decide) rfl (fun ls hl => ?_)
    refine lv_aload_n hx hb dX6_layerAnew_6 rfl (lv_at hl 1 rfl) ?_
    refine lv_iload_n hx hb dX6_layerAnew_7 rfl (lv_at hl 3 rfl) ?_
    refine zc_xVq (κ := 8) (As := [.int p1]) (rest := []) hK hZ hb0 hG hS hx hb hml hown hts (c_X6_personOf l hl0 p1 hJ hBX hBS) (cwV 1 hts gX6_layerAnew_X6_personOf rfl rfl rfl (by decide +kernel) ⟨Nat.le_of_ble_eq_true rfl, Nat.le_of_ble_eq_true rfl⟩) (za_recv (q := (RX6, TX6, 11)) hK hG 0 0 ⟨by omega, rfl⟩ rfl rfl rfl) rfl hl rfl (Nat.le_of_ble_eq_true rfl) dX6_layerAnew_8 ⟨Nat.le_of_ble_eq_true rfl, Nat.le_of_ble_eq_true rfl⟩ (fun En ce q9 u_8 H locs hp hG hS g1 g2 g3 => ?_) (fun r_8 u_8 H locs hp hG hS => ?_)
    · obtain ⟨rfl, h2, rfl⟩ := hp
      exact vx_out (fun x h => (htb x h).elim) hlocks g1 g2 g3 (fun t ht hW => ⟨(_, _), ⟨rfl, by unfold zo_pp; rw [if_neg (fun h => h h1), if_pos h2], rfl⟩, ⟨rfl, by show za_G E b _ t.heap; rw [ht]; exact hG⟩, hS.F ht⟩) hS.2.2 (by omega) (by omega)
    · obtain ⟨rfl, h2, rfl⟩ := hp
      refine lv_astore (lv' := [(4, .ref (ad 8 (zs_ix p1))), (3, .ref (ad 8 (zs_ix p0))), (0, .ref (ad 0 0)), (1, .int p0), (2, .int p1)]) hx hb dX6_layerAnew_11 hl (by decide) rfl (fun ls hl => ?_)
      refine lv_aload_n hx hb dX6_layerAnew_13 rfl (lv_at hl 2 rfl) ?_
      refine zg_BR_chooser hx hb hts hinX6 hown hf39 hK hG dX6_layerAnew_14 ?_
      refine lv_aload_n hx hb dX6_layerAnew_17 rfl (lv_at hl 1 rfl) ?_
      refine zc_Vv (As := [.ref (ad 8 (zs_ix p0))]) (rest := []) hK hZ hb0 hG hS hx hb hml hown hts (c_X0_choose l (zs_ix p0) (by rw [hJ.2.2.2.1, hJ.2.2.2.2.1]; exact hI.Va _ h1) hBX hBS) (cwV 1 hts gX6_layerAnew_X0_choose rfl rfl rfl (by decide +kernel) ⟨Nat.le_of_ble_eq_true rfl, Nat.le_of_ble_eq_true rfl⟩) (za_recv (q := (RX0, TX0, 4)) hK hG 4 0 ⟨by omega, rfl⟩ rfl rfl rfl) rfl hl rfl (Nat.le_of_ble_eq_true rfl) dX6_layerAnew_18 ⟨Nat.le_of_ble_eq_true rfl, Nat.le_of_ble_eq_true rfl⟩ (fun u_18 H locs hp hG hS => ?_)
      obtain ⟨X2, rfl, q1, q2, q3⟩ := hp
      have hJ2 := hJ.fr q1
      refine lv_aload_n hx hb dX6_layerAnew_21 rfl (lv_at hl 2 rfl) ?_
      refine zg_BR_chooser hx hb hts hinX6 hown hf39 hK hG dX6_layerAnew_22 ?_
      refine zg_CH_chosen hx hb hts hinX0 hown hf199 hK hG dX6_layerAnew_25 ?_
      refine lv_aload hx hb dX6_layerAnew_28 (lv_at hl 0 rfl) ?_
      refine zg_PE_number hx hb hts hinX2 hown hf145 hK hG (zs_ix p1) (hJ2.pe h2) dX6_layerAnew_30 ?_
      refine zc_Vi (As := [.int (nI (zs_ix p1))]) (rest := []) hK hZ hb0 hG hS hx hb hml hown hts (c_X1_of l 10 (zs_ix p1) (Or.inr rfl) (by omega)) (cwV 1 hts gX6_layerAnew_X1_of rfl rfl rfl (by decide +kernel) ⟨Nat.le_of_ble_eq_true rfl, Nat.le_of_ble_eq_true rfl⟩) (za_recv (q := (RX1, TX1, 1)) hK hG 6 10 (show 10 < X2.1 5 0 0 ∨ 10 = 10 from (Or.inr rfl)) rfl rfl rfl) rfl hl rfl (Nat.le_of_ble_eq_true rfl) dX6_layerAnew_33 ⟨Nat.le_of_ble_eq_true rfl, Nat.le_of_ble_eq_true rfl⟩ (fun r_33 u_33 H locs hp hG hS => ?_)
      obtain ⟨rfl, rfl⟩ := hp
      exact vx_ret (zm_iret hx hb hr hlocks hG hS (by omega) (by omega) ⟨by unfold zo_pp; rw [if_neg (fun h => h h1), if_neg (fun h => h h2)], by rw [q3 (zs_ix p1) (by omega)], X2, rfl, q1, q2⟩ dX6_layerAnew_36)

set_option maxRecDepth 100000 in
set_option maxHeartbeats 4000000 in
theorem c_X6_used (l : Launch) (hl0 : l.stackTraces = false) {E : za_E} {b : Nat} {ad : za_Ad} {S X T Y : za_S} {ow : Int64} {dw : UInt64} (p0 : Int32) (hC : zs_C S X)  : vx_Met l yX6_used wsX6_used ({ frames := 7, cells := 3, slots := 18, locals := 104 } : Room) (za_Pc E b (ad, S, X, T, Y, ow, dw) [.ref (ad 0 0), .int p0]) (za_Qi E b (fun r u => zo_p S (zs_ix p0) = 0 ∧ r = nI (zs_us S (zs_ix p0)) ∧ u = (ad, S, X, T, Y, ow, dw))) (za_X E b (fun En u => (En = "java/util/NoSuchElementException" ∧ zo_p S (zs_ix p0) = 1 ∧ u = (ad, S, X, T, Y, ow, dw)))) (3) (18) (za_A b) := by
  refine zx_met (ccm := cX6_used) (maxL := 2) (ret := (some .int)) (ws' := _) (own := RX6) (lv := [(0, .ref (ad 0 0)), (1, .int p0)]) (by decide) rfl rfl rfl (by simp [lg_sl, Value.category]) ?_
  intro pg en s m below meth c hx hb hml hr hown hts hlocks htb hK hZ hb0 hG hS ls hl
  have hf186 := hts (.fieldLink RX6 186 "VideoBridge$Person" "layers" "LVideoBridge$Layers;") (by decide +kernel)
  have hinX2 : ∀ w ∈ u_ws RX2 TX2 8, w ∈ wsX6_used := by decide +kernel
  skip
  obtain ⟨hI, hJ, hBX, hok, hRw⟩ := hC
  have hBS := hI.B
  have hc1 := hI.c
  refine lv_aload_n hx hb dX6_used_0 rfl (lv_at hl 0 rfl) ?_
  refine lv_iload_n hx hb dX6_used_1 rfl (lv_at hl 1 rfl) ?_
  refine zc_xVq (κ := 8) (As := [.int p0]) (rest := []) hK hZ hb0 hG hS hx hb hml hown hts (c_X6_personOf l hl0 p0 hJ hBX hBS) (cwV 1 hts gX6_used_X6_personOf rfl rfl rfl (by decide +kernel) ⟨Nat.le_of_ble_eq_true rfl, Nat.le_of_ble_eq_true rfl⟩) (za_recv (q := (RX6, TX6, 11)) hK hG 0 0 ⟨by omega, rfl⟩ rfl rfl rfl) rfl hl rfl (Nat.le_of_ble_eq_true rfl) dX6_used_2 ⟨Nat.le_of_ble_eq_true rfl, Nat.le_of_ble_eq_true rfl⟩ (fun En ce q9 u_2 H locs hp hG hS g1 g2 g3 => ?_) (fun r_2 u_2 H locs hp hG hS => ?_)
  · obtain ⟨rfl, h1, rfl⟩ := hp
    exact vx_out (fun x h => (htb x h).elim) hlocks g1 g2 g3 (fun t ht hW => ⟨(_, _), ⟨rfl, by unfold zo_p; rw [if_pos h1], rfl⟩, ⟨rfl, by show za_G E b _ t.heap; rw [ht]; exact hG⟩, hS.F ht⟩) hS.2.2 (by omega) (by omega)
  · obtain ⟨rfl, h1, rfl⟩ := hp
    refine zg_PE_layers hx hb hts hinX2 hown hf186 hK hG (zs_ix p0) (hJ.pe h1) dX6_used_5 ?_
    refine zc_Vi (As := []) (rest := []) hK hZ hb0 hG hS hx hb hml hown hts (c_X1_needed l (zs_ix p0) (Or.inl (hJ.pe h1)) (fun a q => Nat.lt_trans (hBX 0 a q) (by decide))) (cwV 0 hts gX6_used_X1_needed rfl rfl rfl (by decide +kernel) ⟨Nat.le_of_ble_eq_true rfl, Nat.le_of_ble_eq_true rfl⟩) (za_recv (q := (RX1, TX1, 1)) hK hG 6 (zs_ix p0) (show (zs_ix p0) < X.1 5 0 0 ∨ (zs_ix p0) = 10 from (Or.inl (hJ.pe h1))) rfl rfl rfl) rfl hl rfl (Nat.le_of_ble_eq_true rfl) dX6_used_8 ⟨Nat.le_of_ble_eq_true rfl, Nat.le_of_ble_eq_true rfl⟩ (fun r_8 u_8 H locs hp hG hS => ?_)
    obtain ⟨rfl, rfl⟩ := hp
    exact vx_ret (zm_iret hx hb hr hlocks hG hS (by omega) (by omega) ⟨by unfold zo_p; rw [if_neg (fun h => h h1)], by unfold zs_us; rw [zs_sum_congr 10 (fun j hj => by rw [hok.1 (zs_ix p0) (by omega) h1 j hj])], rfl⟩ dX6_used_11)

set_option maxRecDepth 100000 in
set_option maxHeartbeats 4000000 in
theorem c_X6_viewers (l : Launch) (hl0 : l.stackTraces = false) {E : za_E} {b : Nat} {ad : za_Ad} {S X T Y : za_S} {ow : Int64} {dw : UInt64} (p0 : Int32) (hC : zs_C S X)  : vx_Met l yX6_viewers wsX6_viewers ({ frames := 7, cells := 3, slots := 18, locals := 104 } : Room) (za_Pc E b (ad, S, X, T, Y, ow, dw) [.ref (ad 0 0), .int p0]) (za_Qi E b (fun r u => zo_p S (zs_ix p0) = 0 ∧ r = nI (zs_vc S (zs_ix p0) 10) ∧ u = (ad, S, X, T, Y, ow, dw))) (za_X E b (fun En u => (En = "java/util/NoSuchElementException" ∧ zo_p S (zs_ix p0) = 1 ∧ u = (ad, S, X, T, Y, ow, dw)))) (3) (18) (za_A b) := by
  refine zx_met (ccm := cX6_viewers) (maxL := 8) (ret := (some .int)) (ws' := _) (own := RX6) (lv := [(0, .ref (ad 0 0)), (1, .int p0)]) (by decide) rfl rfl rfl (by simp [lg_sl, Value.category]) ?_
  intro pg en s m below meth c hx hb hml hr hown hts hlocks htb hK hZ hb0 hG hS ls hl
  have hf11 := hts (.fieldLink RX6 11 "VideoBridge" "everybody" "[LVideoBridge$Person;") (by decide +kernel)
  have hf145 := hts (.fieldLink RX6 145 "VideoBridge$Person" "number" "I") (by decide +kernel)
  have hf186 := hts (.fieldLink RX6 186 "VideoBridge$Person" "layers" "LVideoBridge$Layers;") (by decide +kernel)
  have hinX6 : ∀ w ∈ u_ws RX6 TX6 11, w ∈ wsX6_viewers := by decide +kernel
  have hinX2 : ∀ w ∈ u_ws RX2 TX2 8, w ∈ wsX6_viewers := by decide +kernel
  skip
  obtain ⟨hI, hJ, hBX, hok, hRw⟩ := hC
  have hBS := hI.B
  have hc1 := hI.c
  refine lv_aload_n hx hb dX6_viewers_0 rfl (lv_at hl 0 rfl) ?_
  refine lv_iload_n hx hb dX6_viewers_1 rfl (lv_at hl 1 rfl) ?_
  refine zc_xVq (κ := 8) (As := [.int p0]) (rest := []) hK hZ hb0 hG hS hx hb hml hown hts (c_X6_personOf l hl0 p0 hJ hBX hBS) (cwV 1 hts gX6_viewers_X6_personOf rfl rfl rfl (by decide +kernel) ⟨Nat.le_of_ble_eq_true rfl, Nat.le_of_ble_eq_true rfl⟩) (za_recv (q := (RX6, TX6, 11)) hK hG 0 0 ⟨by omega, rfl⟩ rfl rfl rfl) rfl hl rfl (Nat.le_of_ble_eq_true rfl) dX6_viewers_2 ⟨Nat.le_of_ble_eq_true rfl, Nat.le_of_ble_eq_true rfl⟩ (fun En ce q9 u_2 H locs hp hG hS g1 g2 g3 => ?_) (fun r_2 u_2 H locs hp hG hS => ?_)
  · obtain ⟨rfl, h1, rfl⟩ := hp
    exact vx_out (fun x h => (htb x h).elim) hlocks g1 g2 g3 (fun t ht hW => ⟨(_, _), ⟨rfl, by unfold zo_p; rw [if_pos h1], rfl⟩, ⟨rfl, by show za_G E b _ t.heap; rw [ht]; exact hG⟩, hS.F ht⟩) hS.2.2 (by omega) (by omega)
  · obtain ⟨rfl, h1, rfl⟩ := hp
    refine lv_astore_n (lv' := [(2, .ref (ad 8 (zs_ix p0))), (0, .ref (ad 0 0)), (1, .int p0)]) hx hb dX6_viewers_5 rfl hl (by decide) rfl (fun ls hl => ?_)
    refine zb_iconst (n := 0) hx hb dX6_viewers_6 (by decide) ?_
    refine lv_istore_n (lv' := [(3, .int (nI 0)), (2, .ref (ad 8 (zs_ix p0))), (0, .ref (ad 0 0)), (1, .int p0)]) hx hb dX6_viewers_7 rfl hl (by decide) rfl (fun ls hl => ?_)
    refine lv_aload_n hx hb dX6_viewers_8 rfl (lv_at hl 2 rfl) ?_
    refine zg_BR_everybody hx hb hts hinX6 hown hf11 hK hG dX6_viewers_9 ?_
    refine lv_astore (lv' := [(4, .ref (ad 1 0)), (3, .int (nI 0)), (2, .ref (ad 8 (zs_ix p0))), (0, .ref (ad 0 0)), (1, .int p0)]) hx hb dX6_viewers_12 hl (by decide) rfl (fun ls hl => ?_)
    refine lv_aload hx hb dX6_viewers_14 (lv_at hl 0 rfl) ?_
    refine zl_EV hx hb hK hG dX6_viewers_16 ?_
    refine lv_istore (lv' := [(5, .int (nI 10)), (4, .ref (ad 1 0)), (3, .int (nI 0)), (2, .ref (ad 8 (zs_ix p0))), (0, .ref (ad 0 0)), (1, .int p0)]) hx hb dX6_viewers_17 hl (by decide) rfl (fun ls hl => ?_)
    refine zb_iconst (n := 0) hx hb dX6_viewers_19 (by decide) ?_
    refine lv_istore (lv' := [(6, .int (nI 0)), (5, .int (nI 10)), (4, .ref (ad 1 0)), (3, .int (nI 0)), (2, .ref (ad 8 (zs_ix p0))), (0, .ref (ad 0 0)), (1, .int p0)]) hx hb dX6_viewers_20 hl (by decide) rfl (fun ls hl => ?_)
    have loop22 : ∀ (N : Nat) (i : Nat), (i ≤ 10) → 10 - i < N → ∀ (H : Heap) (locs : List Loc), za_G E b (ad, S, X, T, Y, ow, dw) H → va_S (za_A b) s.heap H locs → ∀ ls : Array Slot, lv_has ls 8 [(0, .ref (ad 0 0)), (2, .ref (ad 8 (zs_ix p0))), (3, .int (nI (zs_vc S (zs_ix p0) i))), (4, .ref (ad 1 0)), (5, .int (nI 10)), (6, .int (nI i))] → W pg l en ({ frames := 7, cells := 3, slots := 18, locals := 104 } : Room) s m ([.ref (ad 0 0), .int p0] : List Value).toArray below meth c H locs (0 + 1) (0 + 6) (vx_MQ below (za_Qi E b (fun r u => zo_p S (zs_ix p0) = 0 ∧ r = nI (zs_vc S (zs_ix p0) 10) ∧ u = (ad, S, X, T, Y, ow, dw))) (za_X E b (fun En u => (En = "java/util/NoSuchElementException" ∧ zo_p S (zs_ix p0) = 1 ∧ u = (ad, S, X, T, Y, ow, dw)))) ([.ref (ad 0 0), .int p0] : List Value).toArray s (3) (18) (za_A b)) (F0 m 22 ls []) := by
      intro N
      induction N with
      | zero => intro i hi hN; exact absurd hN (Nat.not_lt_zero _)
      | succ N ih22 =>
        intro i hi hN H locs hG hS ls hl
        refine lv_iload hx hb dX6_viewers_22 (lv_at hl 5 rfl) ?_
        refine lv_iload hx hb dX6_viewers_24 (lv_at hl 4 rfl) ?_
        refine zb_icmp_ge (x := i) (y := 10) (tgt := 66) hx hb (by omega) (by omega) dX6_viewers_26 (by decide) (fun c_26 => ?_) (fun c_26 => ?_)
        · refine lv_iload_n hx hb dX6_viewers_66 rfl (lv_at hl 2 rfl) ?_
          obtain rfl : i = 10 := by omega
          exact vx_ret (zm_iret hx hb hr hlocks hG hS (by omega) (by omega) ⟨by unfold zo_p; rw [if_neg (fun h => h h1)], rfl, rfl⟩ dX6_viewers_67)
        · refine lv_aload hx hb dX6_viewers_29 (lv_at hl 3 rfl) ?_
          refine lv_iload hx hb dX6_viewers_31 (lv_at hl 5 rfl) ?_
          refine zld_EV (r := X.2 1 i 0) hx hb hK hG (by omega) rfl dX6_viewers_33 ?_
          refine zb_ostore (ad := ad) (κ := 8) (r := X.2 1 i 0) (lv' := [(7, za_o ad 8 (X.2 1 i 0)), (0, .ref (ad 0 0)), (2, .ref (ad 8 (zs_ix p0))), (3, .int (nI (zs_vc S (zs_ix p0) i))), (4, .ref (ad 1 0)), (5, .int (nI 10)), (6, .int (nI i))]) hx hb dX6_viewers_34 hl (by decide) rfl (fun ls hl => ?_)
          refine zb_oload hx hb dX6_viewers_36 (lv_at hl 0 rfl) ?_
          refine zb_ifnull (κ := 8) (r := X.2 1 i 0) (tgt := 60) hx hb dX6_viewers_38 (by decide) (fun c_38 => ?_) (fun x_1 c_38 => ?_)
          · rw [c_38] at hl
            refine zb_iinc (n := 1) (k := 6) (lv' := [(6, .int (nI (i + 1))), (7, .null), (0, .ref (ad 0 0)), (2, .ref (ad 8 (zs_ix p0))), (3, .int (nI (zs_vc S (zs_ix p0) i))), (4, .ref (ad 1 0)), (5, .int (nI 10))]) hx hb dX6_viewers_60 hl rfl (by decide) (by decide) rfl (fun ls hl => ?_)
            refine zb_goto (tgt := 22) hx hb dX6_viewers_63 (by decide) ?_
            have e9 : zs_vc S (zs_ix p0) (i + 1) = zs_vc S (zs_ix p0) i := by show zs_sum _ (i + 1) = _; rw [zs_sum]; first | (rw [if_pos ⟨hin, by rw [← hok.1 i (by omega) hin (zs_ix p0) (by omega)]; exact c_54⟩]; rfl) | (rw [if_neg (fun h => by have h9 := h.2; rw [← hok.1 i (by omega) hin (zs_ix p0) (by omega)] at h9; omega)]; rfl) | (rw [if_neg (fun h => hJ.en c_38 h.1)]; rfl)
            rw [← e9] at hl
            exact ih22 (i + 1) (by omega) (by omega) _ _ hG hS ls (lv_sub hl [2, 3, 4, 5, 6, 0] rfl)
          · rw [c_38] at hl
            have hyi : x_1 = i := (hJ.e c_38).1
            have hin : i < S.1 0 0 0 := (hJ.e c_38).2
            rw [hyi] at hl
            have hv_2 : ∀ z, X.2 1 i 0 = some z → z < X.1 5 0 0 := (hJ.ev i)
            refine lv_aload hx hb dX6_viewers_41 (lv_at hl 0 rfl) ?_
            refine zg_PE_layers hx hb hts hinX2 hown hf186 hK hG i (hJ.pe hin) dX6_viewers_43 ?_
            refine lv_aload_n hx hb dX6_viewers_46 rfl (lv_at hl 2 rfl) ?_
            refine zg_PE_number hx hb hts hinX2 hown hf145 hK hG (zs_ix p0) (hJ.pe h1) dX6_viewers_47 ?_
            refine zc_Vi (As := [.int (nI (zs_ix p0))]) (rest := []) hK hZ hb0 hG hS hx hb hml hown hts (c_X1_of l i (zs_ix p0) (Or.inl (hJ.pe hin)) (by omega)) (cwV 1 hts gX6_viewers_X1_of rfl rfl rfl (by decide +kernel) ⟨Nat.le_of_ble_eq_true rfl, Nat.le_of_ble_eq_true rfl⟩) (za_recv (q := (RX1, TX1, 1)) hK hG 6 i (show i < X.1 5 0 0 ∨ i = 10 from (Or.inl (hJ.pe hin))) rfl rfl rfl) rfl hl rfl (Nat.le_of_ble_eq_true rfl) dX6_viewers_50 ⟨Nat.le_of_ble_eq_true rfl, Nat.le_of_ble_eq_true rfl⟩ (fun r_50 u_50 H locs hp hG hS => ?_)
            obtain ⟨rfl, rfl⟩ := hp
            refine zb_iconst (n := 1) hx hb dX6_viewers_53 (by decide) ?_
            refine zb_icmp_lt (x := X.1 0 i (zs_ix p0)) (y := 1) (tgt := 60) hx hb (by have := hBX 0 i (zs_ix p0); omega) (by omega) dX6_viewers_54 (by decide) (fun c_54 => ?_) (fun c_54 => ?_)
            · refine zb_iinc (n := 1) (k := 6) (lv' := [(6, .int (nI (i + 1))), (7, .ref (ad 8 i)), (0, .ref (ad 0 0)), (2, .ref (ad 8 (zs_ix p0))), (3, .int (nI (zs_vc S (zs_ix p0) i))), (4, .ref (ad 1 0)), (5, .int (nI 10))]) hx hb dX6_viewers_60 hl rfl (by decide) (by decide) rfl (fun ls hl => ?_)
              refine zb_goto (tgt := 22) hx hb dX6_viewers_63 (by decide) ?_
              have e9 : zs_vc S (zs_ix p0) (i + 1) = zs_vc S (zs_ix p0) i := by show zs_sum _ (i + 1) = _; rw [zs_sum]; first | (rw [if_pos ⟨hin, by rw [← hok.1 i (by omega) hin (zs_ix p0) (by omega)]; exact c_54⟩]; rfl) | (rw [if_neg (fun h => by have h9 := h.2; rw [← hok.1 i (by omega) hin (zs_ix p0) (by omega)] at h9; omega)]; rfl) | (rw [if_neg (fun h => hJ.en c_38 h.1)]; rfl)
              rw [← e9] at hl
              exact ih22 (i + 1) (by omega) (by omega) _ _ hG hS ls (lv_sub hl [2, 3, 4, 5, 6, 0] rfl)
            · refine zb_iinc (n := 1) (k := 3) (lv' := [(3, .int (nI ((zs_vc S (zs_ix p0) i) + 1))), (7, .ref (ad 8 i)), (0, .ref (ad 0 0)), (2, .ref (ad 8 (zs_ix p0))), (4, .ref (ad 1 0)), (5, .int (nI 10)), (6, .int (nI i))]) hx hb dX6_viewers_57 hl rfl (by decide) (by decide) rfl (fun ls hl => ?_)
              refine zb_iinc (n := 1) (k := 6) (lv' := [(6, .int (nI (i + 1))), (3, .int (nI ((zs_vc S (zs_ix p0) i) + 1))), (7, .ref (ad 8 i)), (0, .ref (ad 0 0)), (2, .ref (ad 8 (zs_ix p0))), (4, .ref (ad 1 0)), (5, .int (nI 10))]) hx hb dX6_viewers_60 hl rfl (by decide) (by decide) rfl (fun ls hl => ?_)
              refine zb_goto (tgt := 22) hx hb dX6_viewers_63 (by decide) ?_
              have e9 : zs_vc S (zs_ix p0) (i + 1) = (zs_vc S (zs_ix p0) i) + 1 := by show zs_sum _ (i + 1) = _; rw [zs_sum]; first | (rw [if_pos ⟨hin, by rw [← hok.1 i (by omega) hin (zs_ix p0) (by omega)]; exact c_54⟩]; rfl) | (rw [if_neg (fun h => by have h9 := h.2; rw [← hok.1 i (by omega) hin (zs_ix p0) (by omega)] at h9; omega)]; rfl) | (rw [if_neg (fun h => hJ.en c_38 h.1)]; rfl)
              rw [← e9] at hl
              exact ih22 (i + 1) (by omega) (by omega) _ _ hG hS ls (lv_sub hl [3, 4, 1, 5, 6, 0] rfl)
    exact loop22 (_ + 1) 0 (Nat.zero_le _) (Nat.lt_succ_self _) _ _ hG hS ls (lv_sub hl [5, 4, 3, 2, 1, 0] rfl)

set_option maxRecDepth 100000 in
set_option maxHeartbeats 4000000 in
theorem c_X6_stop (l : Launch) (hl0 : l.stackTraces = false) {E : za_E} {b : Nat} {ad : za_Ad} {S X T Y : za_S} {ow : Int64} {dw : UInt64} (p0 : Int32) (hC : zs_C S X)  : vx_Met l yX6_stop wsX6_stop ({ frames := 7, cells := 3, slots := 18, locals := 104 } : Room) (za_Pc E b (ad, S, X, T, Y, ow, dw) [.ref (ad 0 0), .int p0]) (za_Qi E b (fun r u => zo_ks S (zs_ix p0) = 0 ∧ r = nI (S.1 7 (zs_ix p0) 0) ∧ u = (ad, za_N S 8 (zs_ix p0) 0 1, X, T, Y, ow, dw))) (za_X E b (fun En u => (En = "java/util/NoSuchElementException" ∧ zo_ks S (zs_ix p0) = 1 ∧ u = (ad, S, X, T, Y, ow, dw)) ∨ (En = "java/lang/IllegalStateException" ∧ zo_ks S (zs_ix p0) = 2 ∧ u = (ad, S, X, T, Y, ow, dw)))) (3) (18) (za_A b) := by
  refine zx_met (ccm := cX6_stop) (maxL := 3) (ret := (some .int)) (ws' := _) (own := RX6) (lv := [(0, .ref (ad 0 0)), (1, .int p0)]) (by decide) rfl rfl rfl (by simp [lg_sl, Value.category]) ?_
  intro pg en s m below meth c hx hb hml hr hown hts hlocks htb hK hZ hb0 hG hS ls hl
  have hf161 := hts (.fieldLink RX6 161 "VideoBridge$Row" "size" "I") (by decide +kernel)
  have hf231 := hts (.fieldLink RX6 231 "VideoBridge$Recorder" "stopped" "Z") (by decide +kernel)
  have hf237 := hts (.fieldLink RX6 237 "VideoBridge$Recorder" "notes" "LVideoBridge$Row;") (by decide +kernel)
  have hiISE := hts (.initialized "java/lang/IllegalStateException") (by decide +kernel)
  have hk51 := hts (.classLink RX6 51 "java/lang/IllegalStateException") (by decide +kernel)
  have hinX3 : ∀ w ∈ u_ws RX3 TX3 3, w ∈ wsX6_stop := by decide +kernel
  have hinX5 : ∀ w ∈ u_ws RX5 TX5 3, w ∈ wsX6_stop := by decide +kernel
  skip
  obtain ⟨hI, hJ, hBX, hok, hRw⟩ := hC
  have hBS := hI.B
  have hc1 := hI.c
  refine lv_aload_n hx hb dX6_stop_0 rfl (lv_at hl 0 rfl) ?_
  refine lv_iload_n hx hb dX6_stop_1 rfl (lv_at hl 1 rfl) ?_
  refine zc_xVq (κ := 11) (As := [.int p0]) (rest := []) hK hZ hb0 hG hS hx hb hml hown hts (c_X6_recorderNumbered l hl0 p0 hJ hBX hBS) (cwV 1 hts gX6_stop_X6_recorderNumbered rfl rfl rfl (by decide +kernel) ⟨Nat.le_of_ble_eq_true rfl, Nat.le_of_ble_eq_true rfl⟩) (za_recv (q := (RX6, TX6, 11)) hK hG 0 0 ⟨by omega, rfl⟩ rfl rfl rfl) rfl hl rfl (Nat.le_of_ble_eq_true rfl) dX6_stop_2 ⟨Nat.le_of_ble_eq_true rfl, Nat.le_of_ble_eq_true rfl⟩ (fun En ce q9 u_2 H locs hp hG hS g1 g2 g3 => ?_) (fun r_2 u_2 H locs hp hG hS => ?_)
  · obtain ⟨rfl, h1, rfl⟩ := hp
    exact vx_out (fun x h => (htb x h).elim) hlocks g1 g2 g3 (fun t ht hW => ⟨(_, _), (Or.inl ⟨rfl, by unfold zo_ks; rw [if_pos h1], rfl⟩), ⟨rfl, by show za_G E b _ t.heap; rw [ht]; exact hG⟩, hS.F ht⟩) hS.2.2 (by omega) (by omega)
  · obtain ⟨rfl, h1, rfl⟩ := hp
    refine lv_astore_n (lv' := [(2, .ref (ad 11 (zs_ix p0))), (0, .ref (ad 0 0)), (1, .int p0)]) hx hb dX6_stop_5 rfl hl (by decide) rfl (fun ls hl => ?_)
    refine lv_aload_n hx hb dX6_stop_6 rfl (lv_at hl 0 rfl) ?_
    refine zg_RE_stopped hx hb hts hinX3 hown hf231 hK hG (zs_ix p0) (hJ.re h1) (n := S.1 8 (zs_ix p0) 0) rfl dX6_stop_7 ?_
    refine zb_if_eq (x := S.1 8 (zs_ix p0) 0) (tgt := 23) hx hb (by have := hBS 8 (zs_ix p0) 0; omega) dX6_stop_10 (by decide) (fun c_10 => ?_) (fun c_10 => ?_)
    · refine lv_aload_n hx hb dX6_stop_23 rfl (lv_at hl 0 rfl) ?_
      refine zb_iconst (n := 1) hx hb dX6_stop_24 (by decide) ?_
      refine zp_RE_stopped hx hb hts hinX3 hown hf231 hS hK hG (zs_ix p0) (hJ.re h1) (by omega) dX6_stop_25 (fun H locs hG hS => ?_)
      refine lv_aload_n hx hb dX6_stop_28 rfl (lv_at hl 0 rfl) ?_
      refine zg_RE_notes hx hb hts hinX3 hown hf237 hK hG (zs_ix p0) (hJ.re h1) dX6_stop_29 ?_
      refine zg_RW_size hx hb hts hinX5 hown hf161 hK hG (zs_ix p0) (Or.inl (hJ.re h1)) (n := S.1 7 (zs_ix p0) 0) rfl dX6_stop_32 ?_
      exact vx_ret (zm_iret hx hb hr hlocks hG hS (by omega) (by omega) ⟨by unfold zo_ks; rw [if_neg (fun h => h h1), if_neg (fun h => h c_10)], rfl, rfl⟩ dX6_stop_35)
    · exact zt_throw (cls := "java/lang/IllegalStateException") (text := "the recorder is stopped") (ik := 51) (is := 235) (ic := 55) hx hb hl0 hZ hG hS hml hl hown htb hlocks (by simp [za_exs]) (by simp [za_texts]) (by decide +kernel) hk51 hiISE (fun w h => hts w (by simp only [wsX6_stop, List.mem_cons, List.mem_append, h, or_true, true_or])) zt_ng_ISE zt_gd_ISE dX6_stop_13 dX6_stop_16 dX6_stop_17 dX6_stop_19 dX6_stop_22 (by decide) (by decide) (by first | (show _ + 1 ≤ _; omega) | decide) (by first | (show _ + 6 ≤ _; omega) | decide) (by omega) (by omega) (Or.inr ⟨rfl, by unfold zo_ks; rw [if_neg (fun h => h h1), if_pos c_10], rfl⟩)

set_option maxRecDepth 100000 in
set_option maxHeartbeats 4000000 in
theorem c_X6_follows (l : Launch) (hl0 : l.stackTraces = false) {E : za_E} {b : Nat} {ad : za_Ad} {S X T Y : za_S} {ow : Int64} {dw : UInt64} (p0 : Int32) (hC : zs_C S X)  : vx_Met l yX6_follows wsX6_follows ({ frames := 7, cells := 3, slots := 18, locals := 104 } : Room) (za_Pc E b (ad, S, X, T, Y, ow, dw) [.ref (ad 0 0), .int p0]) (za_Qi E b (fun r u => zo_ks S (zs_ix p0) = 0 ∧ r = nI (S.1 9 (zs_ix p0) 0) ∧ u = (ad, S, X, T, Y, ow, dw))) (za_X E b (fun En u => (En = "java/util/NoSuchElementException" ∧ zo_ks S (zs_ix p0) = 1 ∧ u = (ad, S, X, T, Y, ow, dw)) ∨ (En = "java/lang/IllegalStateException" ∧ zo_ks S (zs_ix p0) = 2 ∧ u = (ad, S, X, T, Y, ow, dw)))) (3) (18) (za_A b) := by
  refine zx_met (ccm := cX6_follows) (maxL := 3) (ret := (some .int)) (ws' := _) (own := RX6) (lv := [(0, .ref (ad 0 0)), (1, .int p0)]) (by decide) rfl rfl rfl (by simp [lg_sl, Value.category]) ?_
  intro pg en s m below meth c hx hb hml hr hown hts hlocks htb hK hZ hb0 hG hS ls hl
  have hf121 := hts (.fieldLink RX6 121 "VideoBridge$Recorder" "followed" "LVideoBridge$Room;") (by decide +kernel)
  have hf231 := hts (.fieldLink RX6 231 "VideoBridge$Recorder" "stopped" "Z") (by decide +kernel)
  have hf86 := hts (.fieldLink RX6 86 "VideoBridge$Room" "number" "I") (by decide +kernel)
  have hiISE := hts (.initialized "java/lang/IllegalStateException") (by decide +kernel)
  have hk51 := hts (.classLink RX6 51 "java/lang/IllegalStateException") (by decide +kernel)
  have hinX3 : ∀ w ∈ u_ws RX3 TX3 3, w ∈ wsX6_follows := by decide +kernel
  have hinX4 : ∀ w ∈ u_ws RX4 TX4 6, w ∈ wsX6_follows := by decide +kernel
  skip
  obtain ⟨hI, hJ, hBX, hok, hRw⟩ := hC
  have hBS := hI.B
  have hc1 := hI.c
  refine lv_aload_n hx hb dX6_follows_0 rfl (lv_at hl 0 rfl) ?_
  refine lv_iload_n hx hb dX6_follows_1 rfl (lv_at hl 1 rfl) ?_
  refine zc_xVq (κ := 11) (As := [.int p0]) (rest := []) hK hZ hb0 hG hS hx hb hml hown hts (c_X6_recorderNumbered l hl0 p0 hJ hBX hBS) (cwV 1 hts gX6_follows_X6_recorderNumbered rfl rfl rfl (by decide +kernel) ⟨Nat.le_of_ble_eq_true rfl, Nat.le_of_ble_eq_true rfl⟩) (za_recv (q := (RX6, TX6, 11)) hK hG 0 0 ⟨by omega, rfl⟩ rfl rfl rfl) rfl hl rfl (Nat.le_of_ble_eq_true rfl) dX6_follows_2 ⟨Nat.le_of_ble_eq_true rfl, Nat.le_of_ble_eq_true rfl⟩ (fun En ce q9 u_2 H locs hp hG hS g1 g2 g3 => ?_) (fun r_2 u_2 H locs hp hG hS => ?_)
  · obtain ⟨rfl, h1, rfl⟩ := hp
    exact vx_out (fun x h => (htb x h).elim) hlocks g1 g2 g3 (fun t ht hW => ⟨(_, _), (Or.inl ⟨rfl, by unfold zo_ks; rw [if_pos h1], rfl⟩), ⟨rfl, by show za_G E b _ t.heap; rw [ht]; exact hG⟩, hS.F ht⟩) hS.2.2 (by omega) (by omega)
  · obtain ⟨rfl, h1, rfl⟩ := hp
    refine lv_astore_n (lv' := [(2, .ref (ad 11 (zs_ix p0))), (0, .ref (ad 0 0)), (1, .int p0)]) hx hb dX6_follows_5 rfl hl (by decide) rfl (fun ls hl => ?_)
    refine lv_aload_n hx hb dX6_follows_6 rfl (lv_at hl 0 rfl) ?_
    refine zg_RE_stopped hx hb hts hinX3 hown hf231 hK hG (zs_ix p0) (hJ.re h1) (n := S.1 8 (zs_ix p0) 0) rfl dX6_follows_7 ?_
    refine zb_if_eq (x := S.1 8 (zs_ix p0) 0) (tgt := 23) hx hb (by have := hBS 8 (zs_ix p0) 0; omega) dX6_follows_10 (by decide) (fun c_10 => ?_) (fun c_10 => ?_)
    · refine lv_aload_n hx hb dX6_follows_23 rfl (lv_at hl 0 rfl) ?_
      refine zg_RE_followed hx hb hts hinX3 hown hf121 hK hG (zs_ix p0) (hJ.re h1) (n := S.1 9 (zs_ix p0) 0) rfl dX6_follows_24 ?_
      refine zg_RM_number hx hb hts hinX4 hown hf86 hK hG (S.1 9 (zs_ix p0) 0) (hJ.ro (hI.fo h1)) dX6_follows_27 ?_
      exact vx_ret (zm_iret hx hb hr hlocks hG hS (by omega) (by omega) ⟨by unfold zo_ks; rw [if_neg (fun h => h h1), if_neg (fun h => h c_10)], rfl, rfl⟩ dX6_follows_30)
    · exact zt_throw (cls := "java/lang/IllegalStateException") (text := "the recorder is stopped") (ik := 51) (is := 235) (ic := 55) hx hb hl0 hZ hG hS hml hl hown htb hlocks (by simp [za_exs]) (by simp [za_texts]) (by decide +kernel) hk51 hiISE (fun w h => hts w (by simp only [wsX6_follows, List.mem_cons, List.mem_append, h, or_true, true_or])) zt_ng_ISE zt_gd_ISE dX6_follows_13 dX6_follows_16 dX6_follows_17 dX6_follows_19 dX6_follows_22 (by decide) (by decide) (by first | (show _ + 1 ≤ _; omega) | decide) (by first | (show _ + 6 ≤ _; omega) | decide) (by omega) (by omega) (Or.inr ⟨rfl, by unfold zo_ks; rw [if_neg (fun h => h h1), if_pos c_10], rfl⟩)

set_option maxRecDepth 100000 in
set_option maxHeartbeats 4000000 in
theorem c_X6_stateOf (l : Launch) (hl0 : l.stackTraces = false) {E : za_E} {b : Nat} {ad : za_Ad} {S X T Y : za_S} {ow : Int64} {dw : UInt64} (p0 : Int32) (hC : zs_C S X)  : vx_Met l yX6_stateOf wsX6_stateOf ({ frames := 7, cells := 3, slots := 18, locals := 104 } : Room) (za_Pc E b (ad, S, X, T, Y, ow, dw) [.ref (ad 0 0), .int p0]) (za_Qi E b (fun r u => zo_k S (zs_ix p0) = 0 ∧ r = nI (if S.1 8 (zs_ix p0) 0 = 0 then 114 else 115) ∧ u = (ad, S, X, T, Y, ow, dw))) (za_X E b (fun En u => (En = "java/util/NoSuchElementException" ∧ zo_k S (zs_ix p0) = 1 ∧ u = (ad, S, X, T, Y, ow, dw)))) (3) (18) (za_A b) := by
  refine zx_met (ccm := cX6_stateOf) (maxL := 2) (ret := (some .char)) (ws' := _) (own := RX6) (lv := [(0, .ref (ad 0 0)), (1, .int p0)]) (by decide) rfl rfl rfl (by simp [lg_sl, Value.category]) ?_
  intro pg en s m below meth c hx hb hml hr hown hts hlocks htb hK hZ hb0 hG hS ls hl
  have hf231 := hts (.fieldLink RX6 231 "VideoBridge$Recorder" "stopped" "Z") (by decide +kernel)
  have hinX3 : ∀ w ∈ u_ws RX3 TX3 3, w ∈ wsX6_stateOf := by decide +kernel
  skip
  obtain ⟨hI, hJ, hBX, hok, hRw⟩ := hC
  have hBS := hI.B
  have hc1 := hI.c
  refine lv_aload_n hx hb dX6_stateOf_0 rfl (lv_at hl 0 rfl) ?_
  refine lv_iload_n hx hb dX6_stateOf_1 rfl (lv_at hl 1 rfl) ?_
  refine zc_xVq (κ := 11) (As := [.int p0]) (rest := []) hK hZ hb0 hG hS hx hb hml hown hts (c_X6_recorderNumbered l hl0 p0 hJ hBX hBS) (cwV 1 hts gX6_stateOf_X6_recorderNumbered rfl rfl rfl (by decide +kernel) ⟨Nat.le_of_ble_eq_true rfl, Nat.le_of_ble_eq_true rfl⟩) (za_recv (q := (RX6, TX6, 11)) hK hG 0 0 ⟨by omega, rfl⟩ rfl rfl rfl) rfl hl rfl (Nat.le_of_ble_eq_true rfl) dX6_stateOf_2 ⟨Nat.le_of_ble_eq_true rfl, Nat.le_of_ble_eq_true rfl⟩ (fun En ce q9 u_2 H locs hp hG hS g1 g2 g3 => ?_) (fun r_2 u_2 H locs hp hG hS => ?_)
  · obtain ⟨rfl, h1, rfl⟩ := hp
    exact vx_out (fun x h => (htb x h).elim) hlocks g1 g2 g3 (fun t ht hW => ⟨(_, _), ⟨rfl, by unfold zo_k; rw [if_pos h1], rfl⟩, ⟨rfl, by show za_G E b _ t.heap; rw [ht]; exact hG⟩, hS.F ht⟩) hS.2.2 (by omega) (by omega)
  · obtain ⟨rfl, h1, rfl⟩ := hp
    refine zg_RE_stopped hx hb hts hinX3 hown hf231 hK hG (zs_ix p0) (hJ.re h1) (n := S.1 8 (zs_ix p0) 0) rfl dX6_stateOf_5 ?_
    refine zb_if_eq (x := S.1 8 (zs_ix p0) 0) (tgt := 16) hx hb (by have := hBS 8 (zs_ix p0) 0; omega) dX6_stateOf_8 (by decide) (fun c_8 => ?_) (fun c_8 => ?_)
    · refine zb_bipush (n := 114) hx hb dX6_stateOf_16 (by decide) ?_
      exact vx_ret (zm_zret hx hb hr (by decide) hlocks hG hS (by omega) (by omega) ⟨by unfold zo_k; rw [if_neg (fun h => h h1)], by first | rw [if_pos c_8] | rw [if_neg c_8], rfl⟩ dX6_stateOf_18)
    · refine zb_bipush (n := 115) hx hb dX6_stateOf_11 (by decide) ?_
      refine zb_goto (tgt := 18) hx hb dX6_stateOf_13 (by decide) ?_
      exact vx_ret (zm_zret hx hb hr (by decide) hlocks hG hS (by omega) (by omega) ⟨by unfold zo_k; rw [if_neg (fun h => h h1)], by first | rw [if_pos c_8] | rw [if_neg c_8], rfl⟩ dX6_stateOf_18)
