set_option maxRecDepth 100000 in
set_option maxHeartbeats 4000000 in
theorem c_X6_setBudget (l : Launch) (hl0 : l.stackTraces = false) {E : za_E} {b : Nat} {ad : za_Ad} {S X T Y : za_S} {ow : Int64} {dw : UInt64} (p0 p1 : Int32) (hC : zs_C S X)  : vx_Met l yX6_setBudget wsX6_setBudget ({ frames := 7, cells := 3, slots := 18, locals := 115 } : Room) (za_Pc E b (ad, S, X, T, Y, ow, dw) [.ref (ad 0 0), .int p0, .int p1]) (za_Qi E b (fun r u => zo_set S (zs_ix p0) (zs_ix p1) 9999 = 0 ∧ r = nI (S.1 1 (zs_ix p0) 0) ∧ ∃ X2, u = (ad, za_N S 1 (zs_ix p0) 0 (zs_ix p1), X2, T, Y, ow, dw) ∧ zs_fv X X2 ∧ zs_B X2 ∧ zs_ok (za_N S 1 (zs_ix p0) 0 (zs_ix p1)) X2)) (za_X E b (fun En u => (En = "java/util/NoSuchElementException" ∧ zo_set S (zs_ix p0) (zs_ix p1) 9999 = 1 ∧ u = (ad, S, X, T, Y, ow, dw)) ∨ (En = "java/lang/IllegalArgumentException" ∧ zo_set S (zs_ix p0) (zs_ix p1) 9999 = 2 ∧ u = (ad, S, X, T, Y, ow, dw)))) (3) (18) (za_A b) := by
  refine zx_met (ccm := cX6_setBudget) (maxL := 5) (ret := (some .int)) (ws' := _) (own := RX6) (lv := [(0, .ref (ad 0 0)), (1, .int p0), (2, .int p1)]) (by decide) rfl rfl rfl (by simp [lg_sl, Value.category]) ?_
  intro pg en s m below meth c hx hb hml hr hown hts hlocks htb hK hZ hb0 hG hS ls hl
  have hf64 := hts (.fieldLink RX6 64 "VideoBridge$Person" "budget" "I") (by decide +kernel)
  have hinX2 : ∀ w ∈ u_ws RX2 TX2 8, w ∈ wsX6_setBudget := by decide +kernel
  skip
  obtain ⟨hI, hJ, hBX, hok⟩ := hC
  have hBS := hI.B
  have hc1 := hI.c
  refine lv_aload_n hx hb dX6_setBudget_0 rfl (lv_at hl 0 rfl) ?_
  refine lv_iload_n hx hb dX6_setBudget_1 rfl (lv_at hl 1 rfl) ?_
  refine zc_xVq (κ := 8) (As := [.int p0]) (rest := []) hK hZ hb0 hG hS hx hb hml hown hts (c_X6_personOf l hl0 p0 hJ hBX hBS) (cwV 1 hts gX6_setBudget_X6_personOf rfl rfl rfl (by decide +kernel) ⟨Nat.le_of_ble_eq_true rfl, Nat.le_of_ble_eq_true rfl⟩) (za_recv (q := (RX6, TX6, 11)) hK hG 0 0 ⟨by omega, rfl⟩ rfl rfl rfl) rfl hl rfl (Nat.le_of_ble_eq_true rfl) dX6_setBudget_2 ⟨Nat.le_of_ble_eq_true rfl, Nat.le_of_ble_eq_true rfl⟩ (fun En ce q9 u_2 H locs hp hG hS g1 g2 g3 => ?_) (fun r_2 u_2 H locs hp hG hS => ?_)
  · obtain ⟨rfl, h1, rfl⟩ := hp
    exact vx_out (fun x h => (htb x h).elim) hlocks g1 g2 g3 (fun t ht hW => ⟨(_, _), (Or.inl ⟨rfl, by unfold zo_set; rw [if_pos h1], rfl⟩), ⟨rfl, by show za_G E b _ t.heap; rw [ht]; exact hG⟩, hS.F ht⟩) hS.2.2 (by omega) (by omega)
  · obtain ⟨rfl, h1, rfl⟩ := hp
    refine lv_astore_n (lv' := [(3, .ref (ad 8 (zs_ix p0))), (0, .ref (ad 0 0)), (1, .int p0), (2, .int p1)]) hx hb dX6_setBudget_5 rfl hl (by decide) rfl (fun ls hl => ?_)
    refine zb_sipush (n := 9999) hx hb dX6_setBudget_6 (by decide) ?_
    refine lv_iload_n hx hb dX6_setBudget_9 rfl (lv_at hl 3 rfl) ?_
    refine zc_xSv (As := [.int (nI 9999), .int p1]) (rest := []) hK hZ hb0 hG hS hx hb hml hown hts (c_X6_requireUpTo l hl0 9999 p1 (by decide)) (cwS 2 hts gX6_setBudget_X6_requireUpTo rfl rfl rfl (by decide +kernel) ⟨Nat.le_of_ble_eq_true rfl, Nat.le_of_ble_eq_true rfl⟩) rfl hl rfl (Nat.le_of_ble_eq_true rfl) dX6_setBudget_10 ⟨Nat.le_of_ble_eq_true rfl, Nat.le_of_ble_eq_true rfl⟩ (fun En ce q9 u_10 H locs hp hG hS g1 g2 g3 => ?_) (fun u_10 H locs hp hG hS => ?_)
    · obtain ⟨rfl, h2, rfl⟩ := hp
      exact vx_out (fun x h => (htb x h).elim) hlocks g1 g2 g3 (fun t ht hW => ⟨(_, _), (Or.inr ⟨rfl, by unfold zo_set; rw [if_neg (fun h => h h1), if_pos h2], rfl⟩), ⟨rfl, by show za_G E b _ t.heap; rw [ht]; exact hG⟩, hS.F ht⟩) hS.2.2 (by omega) (by omega)
    · obtain ⟨h2, rfl⟩ := hp
      rcases zs_ixc p1 with ⟨-, e⟩ | ⟨n, hn, rfl, e⟩; · exact absurd h2 (by rw [e]; decide)
      have hl : lv_has ls 5 [(3, .ref (ad 8 (zs_ix p0))), (0, .ref (ad 0 0)), (1, .int p0), (2, .int (nI n))] := hl
      refine lv_aload_n hx hb dX6_setBudget_13 rfl (lv_at hl 0 rfl) ?_
      refine zg_PE_budget hx hb hts hinX2 hown hf64 hK hG (zs_ix p0) (hJ.pe h1) (n := S.1 1 (zs_ix p0) 0) rfl dX6_setBudget_14 ?_
      refine lv_istore (lv' := [(4, .int (nI (S.1 1 (zs_ix p0) 0))), (3, .ref (ad 8 (zs_ix p0))), (0, .ref (ad 0 0)), (1, .int p0), (2, .int (nI n))]) hx hb dX6_setBudget_17 hl (by decide) rfl (fun ls hl => ?_)
      refine lv_aload_n hx hb dX6_setBudget_19 rfl (lv_at hl 1 rfl) ?_
      refine lv_iload_n hx hb dX6_setBudget_20 rfl (lv_at hl 4 rfl) ?_
      refine zp_PE_budget hx hb hts hinX2 hown hf64 hS hK hG (zs_ix p0) (hJ.pe h1) dX6_setBudget_21 (fun H locs hG hS => ?_)
      refine lv_aload_n hx hb dX6_setBudget_24 rfl (lv_at hl 2 rfl) ?_
      refine zc_Vv (As := []) (rest := []) hK hZ hb0 hG hS hx hb hml hown hts (c_X6_chooseViews l hJ (zs_Va_N hI 1 (by decide) (zs_ix p0) n) hBX (zs_N_B hBS (by have := h2; rw [e] at this; omega))) (cwV 0 hts gX6_setBudget_X6_chooseViews rfl rfl rfl (by decide +kernel) ⟨Nat.le_of_ble_eq_true rfl, Nat.le_of_ble_eq_true rfl⟩) (za_recv (q := (RX6, TX6, 11)) hK hG 0 0 ⟨by omega, rfl⟩ rfl rfl rfl) rfl hl rfl (Nat.le_of_ble_eq_true rfl) dX6_setBudget_25 ⟨Nat.le_of_ble_eq_true rfl, Nat.le_of_ble_eq_true rfl⟩ (fun u_25 H locs hp hG hS => ?_)
      obtain ⟨X2, rfl, q1, q2, q3, q4⟩ := hp
      refine lv_iload hx hb dX6_setBudget_28 (lv_at hl 0 rfl) ?_
      exact vx_ret (zm_iret hx hb hr hlocks hG hS (by omega) (by omega) ⟨by unfold zo_set; rw [if_neg (fun h => h h1), if_neg (fun h => h h2)], rfl, X2, by rw [e], q1, q2, by rw [e]; exact ⟨q3, q4⟩⟩ dX6_setBudget_30)

set_option maxRecDepth 100000 in
set_option maxHeartbeats 4000000 in
theorem c_X6_setSends (l : Launch) (hl0 : l.stackTraces = false) {E : za_E} {b : Nat} {ad : za_Ad} {S X T Y : za_S} {ow : Int64} {dw : UInt64} (p0 p1 : Int32) (hC : zs_C S X)  : vx_Met l yX6_setSends wsX6_setSends ({ frames := 7, cells := 3, slots := 18, locals := 115 } : Room) (za_Pc E b (ad, S, X, T, Y, ow, dw) [.ref (ad 0 0), .int p0, .int p1]) (za_Qi E b (fun r u => zo_set S (zs_ix p0) (zs_ix p1) 3 = 0 ∧ r = nI (S.1 2 (zs_ix p0) 0) ∧ ∃ X2, u = (ad, za_N S 2 (zs_ix p0) 0 (zs_ix p1), X2, T, Y, ow, dw) ∧ zs_fv X X2 ∧ zs_B X2 ∧ zs_ok (za_N S 2 (zs_ix p0) 0 (zs_ix p1)) X2)) (za_X E b (fun En u => (En = "java/util/NoSuchElementException" ∧ zo_set S (zs_ix p0) (zs_ix p1) 3 = 1 ∧ u = (ad, S, X, T, Y, ow, dw)) ∨ (En = "java/lang/IllegalArgumentException" ∧ zo_set S (zs_ix p0) (zs_ix p1) 3 = 2 ∧ u = (ad, S, X, T, Y, ow, dw)))) (3) (18) (za_A b) := by
  refine zx_met (ccm := cX6_setSends) (maxL := 5) (ret := (some .int)) (ws' := _) (own := RX6) (lv := [(0, .ref (ad 0 0)), (1, .int p0), (2, .int p1)]) (by decide) rfl rfl rfl (by simp [lg_sl, Value.category]) ?_
  intro pg en s m below meth c hx hb hml hr hown hts hlocks htb hK hZ hb0 hG hS ls hl
  have hf70 := hts (.fieldLink RX6 70 "VideoBridge$Person" "sends" "I") (by decide +kernel)
  have hinX2 : ∀ w ∈ u_ws RX2 TX2 8, w ∈ wsX6_setSends := by decide +kernel
  skip
  obtain ⟨hI, hJ, hBX, hok⟩ := hC
  have hBS := hI.B
  have hc1 := hI.c
  refine lv_aload_n hx hb dX6_setSends_0 rfl (lv_at hl 0 rfl) ?_
  refine lv_iload_n hx hb dX6_setSends_1 rfl (lv_at hl 1 rfl) ?_
  refine zc_xVq (κ := 8) (As := [.int p0]) (rest := []) hK hZ hb0 hG hS hx hb hml hown hts (c_X6_personOf l hl0 p0 hJ hBX hBS) (cwV 1 hts gX6_setSends_X6_personOf rfl rfl rfl (by decide +kernel) ⟨Nat.le_of_ble_eq_true rfl, Nat.le_of_ble_eq_true rfl⟩) (za_recv (q := (RX6, TX6, 11)) hK hG 0 0 ⟨by omega, rfl⟩ rfl rfl rfl) rfl hl rfl (Nat.le_of_ble_eq_true rfl) dX6_setSends_2 ⟨Nat.le_of_ble_eq_true rfl, Nat.le_of_ble_eq_true rfl⟩ (fun En ce q9 u_2 H locs hp hG hS g1 g2 g3 => ?_) (fun r_2 u_2 H locs hp hG hS => ?_)
  · obtain ⟨rfl, h1, rfl⟩ := hp
    exact vx_out (fun x h => (htb x h).elim) hlocks g1 g2 g3 (fun t ht hW => ⟨(_, _), (Or.inl ⟨rfl, by unfold zo_set; rw [if_pos h1], rfl⟩), ⟨rfl, by show za_G E b _ t.heap; rw [ht]; exact hG⟩, hS.F ht⟩) hS.2.2 (by omega) (by omega)
  · obtain ⟨rfl, h1, rfl⟩ := hp
    refine lv_astore_n (lv' := [(3, .ref (ad 8 (zs_ix p0))), (0, .ref (ad 0 0)), (1, .int p0), (2, .int p1)]) hx hb dX6_setSends_5 rfl hl (by decide) rfl (fun ls hl => ?_)
    refine zb_iconst (n := 3) hx hb dX6_setSends_6 (by decide) ?_
    refine lv_iload_n hx hb dX6_setSends_7 rfl (lv_at hl 3 rfl) ?_
    refine zc_xSv (As := [.int (nI 3), .int p1]) (rest := []) hK hZ hb0 hG hS hx hb hml hown hts (c_X6_requireUpTo l hl0 3 p1 (by decide)) (cwS 2 hts gX6_setSends_X6_requireUpTo rfl rfl rfl (by decide +kernel) ⟨Nat.le_of_ble_eq_true rfl, Nat.le_of_ble_eq_true rfl⟩) rfl hl rfl (Nat.le_of_ble_eq_true rfl) dX6_setSends_8 ⟨Nat.le_of_ble_eq_true rfl, Nat.le_of_ble_eq_true rfl⟩ (fun En ce q9 u_8 H locs hp hG hS g1 g2 g3 => ?_) (fun u_8 H locs hp hG hS => ?_)
    · obtain ⟨rfl, h2, rfl⟩ := hp
      exact vx_out (fun x h => (htb x h).elim) hlocks g1 g2 g3 (fun t ht hW => ⟨(_, _), (Or.inr ⟨rfl, by unfold zo_set; rw [if_neg (fun h => h h1), if_pos h2], rfl⟩), ⟨rfl, by show za_G E b _ t.heap; rw [ht]; exact hG⟩, hS.F ht⟩) hS.2.2 (by omega) (by omega)
    · obtain ⟨h2, rfl⟩ := hp
      rcases zs_ixc p1 with ⟨-, e⟩ | ⟨n, hn, rfl, e⟩; · exact absurd h2 (by rw [e]; decide)
      have hl : lv_has ls 5 [(3, .ref (ad 8 (zs_ix p0))), (0, .ref (ad 0 0)), (1, .int p0), (2, .int (nI n))] := hl
      refine lv_aload_n hx hb dX6_setSends_11 rfl (lv_at hl 0 rfl) ?_
      refine zg_PE_sends hx hb hts hinX2 hown hf70 hK hG (zs_ix p0) (hJ.pe h1) (n := S.1 2 (zs_ix p0) 0) rfl dX6_setSends_12 ?_
      refine lv_istore (lv' := [(4, .int (nI (S.1 2 (zs_ix p0) 0))), (3, .ref (ad 8 (zs_ix p0))), (0, .ref (ad 0 0)), (1, .int p0), (2, .int (nI n))]) hx hb dX6_setSends_15 hl (by decide) rfl (fun ls hl => ?_)
      refine lv_aload_n hx hb dX6_setSends_17 rfl (lv_at hl 1 rfl) ?_
      refine lv_iload_n hx hb dX6_setSends_18 rfl (lv_at hl 4 rfl) ?_
      refine zp_PE_sends hx hb hts hinX2 hown hf70 hS hK hG (zs_ix p0) (hJ.pe h1) dX6_setSends_19 (fun H locs hG hS => ?_)
      refine lv_aload_n hx hb dX6_setSends_22 rfl (lv_at hl 2 rfl) ?_
      refine zc_Vv (As := []) (rest := []) hK hZ hb0 hG hS hx hb hml hown hts (c_X6_chooseViews l hJ (zs_Va_N hI 2 (by decide) (zs_ix p0) n) hBX (zs_N_B hBS (by have := h2; rw [e] at this; omega))) (cwV 0 hts gX6_setSends_X6_chooseViews rfl rfl rfl (by decide +kernel) ⟨Nat.le_of_ble_eq_true rfl, Nat.le_of_ble_eq_true rfl⟩) (za_recv (q := (RX6, TX6, 11)) hK hG 0 0 ⟨by omega, rfl⟩ rfl rfl rfl) rfl hl rfl (Nat.le_of_ble_eq_true rfl) dX6_setSends_23 ⟨Nat.le_of_ble_eq_true rfl, Nat.le_of_ble_eq_true rfl⟩ (fun u_23 H locs hp hG hS => ?_)
      obtain ⟨X2, rfl, q1, q2, q3, q4⟩ := hp
      refine lv_iload hx hb dX6_setSends_26 (lv_at hl 0 rfl) ?_
      exact vx_ret (zm_iret hx hb hr hlocks hG hS (by omega) (by omega) ⟨by unfold zo_set; rw [if_neg (fun h => h h1), if_neg (fun h => h h2)], rfl, X2, by rw [e], q1, q2, by rw [e]; exact ⟨q3, q4⟩⟩ dX6_setSends_28)

set_option maxRecDepth 100000 in
set_option maxHeartbeats 4000000 in
theorem c_X6_setLoud (l : Launch) (hl0 : l.stackTraces = false) {E : za_E} {b : Nat} {ad : za_Ad} {S X T Y : za_S} {ow : Int64} {dw : UInt64} (p0 p1 : Int32) (hC : zs_C S X)  : vx_Met l yX6_setLoud wsX6_setLoud ({ frames := 7, cells := 3, slots := 18, locals := 104 } : Room) (za_Pc E b (ad, S, X, T, Y, ow, dw) [.ref (ad 0 0), .int p0, .int p1]) (za_Qi E b (fun r u => zo_set S (zs_ix p0) (zs_ix p1) 99 = 0 ∧ r = nI (S.1 3 (zs_ix p0) 0) ∧ u = (ad, za_N S 3 (zs_ix p0) 0 (zs_ix p1), X, T, Y, ow, dw))) (za_X E b (fun En u => (En = "java/util/NoSuchElementException" ∧ zo_set S (zs_ix p0) (zs_ix p1) 99 = 1 ∧ u = (ad, S, X, T, Y, ow, dw)) ∨ (En = "java/lang/IllegalArgumentException" ∧ zo_set S (zs_ix p0) (zs_ix p1) 99 = 2 ∧ u = (ad, S, X, T, Y, ow, dw)))) (3) (18) (za_A b) := by
  refine zx_met (ccm := cX6_setLoud) (maxL := 5) (ret := (some .int)) (ws' := _) (own := RX6) (lv := [(0, .ref (ad 0 0)), (1, .int p0), (2, .int p1)]) (by decide) rfl rfl rfl (by simp [lg_sl, Value.category]) ?_
  intro pg en s m below meth c hx hb hml hr hown hts hlocks htb hK hZ hb0 hG hS ls hl
  have hf73 := hts (.fieldLink RX6 73 "VideoBridge$Person" "loudness" "I") (by decide +kernel)
  have hinX2 : ∀ w ∈ u_ws RX2 TX2 8, w ∈ wsX6_setLoud := by decide +kernel
  skip
  obtain ⟨hI, hJ, hBX, hok⟩ := hC
  have hBS := hI.B
  have hc1 := hI.c
  refine lv_aload_n hx hb dX6_setLoud_0 rfl (lv_at hl 0 rfl) ?_
  refine lv_iload_n hx hb dX6_setLoud_1 rfl (lv_at hl 1 rfl) ?_
  refine zc_xVq (κ := 8) (As := [.int p0]) (rest := []) hK hZ hb0 hG hS hx hb hml hown hts (c_X6_personOf l hl0 p0 hJ hBX hBS) (cwV 1 hts gX6_setLoud_X6_personOf rfl rfl rfl (by decide +kernel) ⟨Nat.le_of_ble_eq_true rfl, Nat.le_of_ble_eq_true rfl⟩) (za_recv (q := (RX6, TX6, 11)) hK hG 0 0 ⟨by omega, rfl⟩ rfl rfl rfl) rfl hl rfl (Nat.le_of_ble_eq_true rfl) dX6_setLoud_2 ⟨Nat.le_of_ble_eq_true rfl, Nat.le_of_ble_eq_true rfl⟩ (fun En ce q9 u_2 H locs hp hG hS g1 g2 g3 => ?_) (fun r_2 u_2 H locs hp hG hS => ?_)
  · obtain ⟨rfl, h1, rfl⟩ := hp
    exact vx_out (fun x h => (htb x h).elim) hlocks g1 g2 g3 (fun t ht hW => ⟨(_, _), (Or.inl ⟨rfl, by unfold zo_set; rw [if_pos h1], rfl⟩), ⟨rfl, by show za_G E b _ t.heap; rw [ht]; exact hG⟩, hS.F ht⟩) hS.2.2 (by omega) (by omega)
  · obtain ⟨rfl, h1, rfl⟩ := hp
    refine lv_astore_n (lv' := [(3, .ref (ad 8 (zs_ix p0))), (0, .ref (ad 0 0)), (1, .int p0), (2, .int p1)]) hx hb dX6_setLoud_5 rfl hl (by decide) rfl (fun ls hl => ?_)
    refine zb_bipush (n := 99) hx hb dX6_setLoud_6 (by decide) ?_
    refine lv_iload_n hx hb dX6_setLoud_8 rfl (lv_at hl 3 rfl) ?_
    refine zc_xSv (As := [.int (nI 99), .int p1]) (rest := []) hK hZ hb0 hG hS hx hb hml hown hts (c_X6_requireUpTo l hl0 99 p1 (by decide)) (cwS 2 hts gX6_setLoud_X6_requireUpTo rfl rfl rfl (by decide +kernel) ⟨Nat.le_of_ble_eq_true rfl, Nat.le_of_ble_eq_true rfl⟩) rfl hl rfl (Nat.le_of_ble_eq_true rfl) dX6_setLoud_9 ⟨Nat.le_of_ble_eq_true rfl, Nat.le_of_ble_eq_true rfl⟩ (fun En ce q9 u_9 H locs hp hG hS g1 g2 g3 => ?_) (fun u_9 H locs hp hG hS => ?_)
    · obtain ⟨rfl, h2, rfl⟩ := hp
      exact vx_out (fun x h => (htb x h).elim) hlocks g1 g2 g3 (fun t ht hW => ⟨(_, _), (Or.inr ⟨rfl, by unfold zo_set; rw [if_neg (fun h => h h1), if_pos h2], rfl⟩), ⟨rfl, by show za_G E b _ t.heap; rw [ht]; exact hG⟩, hS.F ht⟩) hS.2.2 (by omega) (by omega)
    · obtain ⟨h2, rfl⟩ := hp
      rcases zs_ixc p1 with ⟨-, e⟩ | ⟨n, hn, rfl, e⟩; · exact absurd h2 (by rw [e]; decide)
      have hl : lv_has ls 5 [(3, .ref (ad 8 (zs_ix p0))), (0, .ref (ad 0 0)), (1, .int p0), (2, .int (nI n))] := hl
      refine lv_aload_n hx hb dX6_setLoud_12 rfl (lv_at hl 0 rfl) ?_
      refine zg_PE_loudness hx hb hts hinX2 hown hf73 hK hG (zs_ix p0) (hJ.pe h1) (n := S.1 3 (zs_ix p0) 0) rfl dX6_setLoud_13 ?_
      refine lv_istore (lv' := [(4, .int (nI (S.1 3 (zs_ix p0) 0))), (3, .ref (ad 8 (zs_ix p0))), (0, .ref (ad 0 0)), (1, .int p0), (2, .int (nI n))]) hx hb dX6_setLoud_16 hl (by decide) rfl (fun ls hl => ?_)
      refine lv_aload_n hx hb dX6_setLoud_18 rfl (lv_at hl 1 rfl) ?_
      refine lv_iload_n hx hb dX6_setLoud_19 rfl (lv_at hl 4 rfl) ?_
      refine zp_PE_loudness hx hb hts hinX2 hown hf73 hS hK hG (zs_ix p0) (hJ.pe h1) dX6_setLoud_20 (fun H locs hG hS => ?_)
      refine lv_iload hx hb dX6_setLoud_23 (lv_at hl 0 rfl) ?_
      exact vx_ret (zm_iret hx hb hr hlocks hG hS (by omega) (by omega) ⟨by unfold zo_set; rw [if_neg (fun h => h h1), if_neg (fun h => h h2)], rfl, by rw [e]⟩ dX6_setLoud_25)
