set_option maxRecDepth 100000 in
set_option maxHeartbeats 4000000 in
theorem c_X7_people (l : Launch) {E : za_E} {b : Nat} {ad : za_Ad} {S X T Y : za_S} {ow : Int64} {dw : UInt64}  (hM : zs_M T Y) : Met l yX7_people wsX7_people ({ frames := 0, cells := 0, slots := 0, locals := 0 } : Room) (za_Pc E b (ad, S, X, T, Y, ow, dw) [.ref (ad 14 0)]) (za_Qi E b (fun r u => ∃ T2 Y2, u = (ad, S, X, T2, Y2, ow, dw) ∧ zy Y2 (0) ∧ ((0 = 0 ∧ T2 = T ∧ r = nI (T.1 0 0 0)) ∨ (0 ≠ 0 ∧ T2 = T)))) (0) (0) (za_A b) := by
  refine zm_met (ccm := cX7_people) (maxL := 1) (ret := (some .int)) (ws' := _) (own := RX7) (lv := [(0, .ref (ad 14 0))]) (by decide) rfl rfl rfl (by simp [lg_sl, Value.category]) ?_
  intro pg en s m below meth c hx hb hml hr hown hts hlocks hK hZ hb0 hG hS ls hl
  have hf66 := hts (.fieldLink RX7 66 "VideoBridgeModel" "code" "I") (by decide +kernel)
  have hf70 := hts (.fieldLink RX7 70 "VideoBridgeModel" "people" "I") (by decide +kernel)
  have hinX7 : ∀ w ∈ u_ws RX7 TX7 25, w ∈ wsX7_people := by decide +kernel
  skip
  obtain ⟨hI, hL, h6, hBY⟩ := id hM
  have hBT := hI.B
  have hc1 := hI.c
  have htI := hI.t
  refine lv_aload_n hx hb dX7_people_0 rfl (lv_at hl 0 rfl) ?_
  refine zb_iconst (n := 0) hx hb dX7_people_1 (by decide) ?_
  refine zp_MO_code hx hb hts hinX7 hown hf66 hS hK hG dX7_people_2 (fun H locs hG hS => ?_)
  refine lv_aload_n hx hb dX7_people_5 rfl (lv_at hl 0 rfl) ?_
  refine zg_MO_people hx hb hts hinX7 hown hf70 hK hG (n := T.1 0 0 0) rfl dX7_people_6 ?_
  have hcode : 0 = 0 := by (first | rfl | ((repeat' split) <;> first | rfl | (exfalso; omega) | contradiction | (exfalso; simp_all; done)))
  exact zm_iret hx hb hr hlocks hG hS (by omega) (by omega) ⟨_, _, rfl, by rw [hcode]; exact zy_N hBY (by decide), Or.inl ⟨hcode, rfl, rfl⟩⟩ dX7_people_9

set_option maxRecDepth 100000 in
set_option maxHeartbeats 4000000 in
theorem c_X7_rooms (l : Launch) {E : za_E} {b : Nat} {ad : za_Ad} {S X T Y : za_S} {ow : Int64} {dw : UInt64}  (hM : zs_M T Y) : Met l yX7_rooms wsX7_rooms ({ frames := 0, cells := 0, slots := 0, locals := 0 } : Room) (za_Pc E b (ad, S, X, T, Y, ow, dw) [.ref (ad 14 0)]) (za_Qi E b (fun r u => ∃ T2 Y2, u = (ad, S, X, T2, Y2, ow, dw) ∧ zy Y2 (0) ∧ ((0 = 0 ∧ T2 = T ∧ r = nI (T.1 0 1 0)) ∨ (0 ≠ 0 ∧ T2 = T)))) (0) (0) (za_A b) := by
  refine zm_met (ccm := cX7_rooms) (maxL := 1) (ret := (some .int)) (ws' := _) (own := RX7) (lv := [(0, .ref (ad 14 0))]) (by decide) rfl rfl rfl (by simp [lg_sl, Value.category]) ?_
  intro pg en s m below meth c hx hb hml hr hown hts hlocks hK hZ hb0 hG hS ls hl
  have hf66 := hts (.fieldLink RX7 66 "VideoBridgeModel" "code" "I") (by decide +kernel)
  have hf77 := hts (.fieldLink RX7 77 "VideoBridgeModel" "rooms" "I") (by decide +kernel)
  have hinX7 : ∀ w ∈ u_ws RX7 TX7 25, w ∈ wsX7_rooms := by decide +kernel
  skip
  obtain ⟨hI, hL, h6, hBY⟩ := id hM
  have hBT := hI.B
  have hc1 := hI.c
  have htI := hI.t
  refine lv_aload_n hx hb dX7_rooms_0 rfl (lv_at hl 0 rfl) ?_
  refine zb_iconst (n := 0) hx hb dX7_rooms_1 (by decide) ?_
  refine zp_MO_code hx hb hts hinX7 hown hf66 hS hK hG dX7_rooms_2 (fun H locs hG hS => ?_)
  refine lv_aload_n hx hb dX7_rooms_5 rfl (lv_at hl 0 rfl) ?_
  refine zg_MO_rooms hx hb hts hinX7 hown hf77 hK hG (n := T.1 0 1 0) rfl dX7_rooms_6 ?_
  have hcode : 0 = 0 := by (first | rfl | ((repeat' split) <;> first | rfl | (exfalso; omega) | contradiction | (exfalso; simp_all; done)))
  exact zm_iret hx hb hr hlocks hG hS (by omega) (by omega) ⟨_, _, rfl, by rw [hcode]; exact zy_N hBY (by decide), Or.inl ⟨hcode, rfl, rfl⟩⟩ dX7_rooms_9

set_option maxRecDepth 100000 in
set_option maxHeartbeats 4000000 in
theorem c_X7_tick (l : Launch) {E : za_E} {b : Nat} {ad : za_Ad} {S X T Y : za_S} {ow : Int64} {dw : UInt64}  (hM : zs_M T Y) : Met l yX7_tick wsX7_tick ({ frames := 0, cells := 0, slots := 0, locals := 0 } : Room) (za_Pc E b (ad, S, X, T, Y, ow, dw) [.ref (ad 14 0)]) (za_Qi E b (fun r u => ∃ T2 Y2, u = (ad, S, X, T2, Y2, ow, dw) ∧ zy Y2 (0) ∧ ((0 = 0 ∧ T2 = T ∧ r = nI (T.1 0 3 0)) ∨ (0 ≠ 0 ∧ T2 = T)))) (0) (0) (za_A b) := by
  refine zm_met (ccm := cX7_tick) (maxL := 1) (ret := (some .int)) (ws' := _) (own := RX7) (lv := [(0, .ref (ad 14 0))]) (by decide) rfl rfl rfl (by simp [lg_sl, Value.category]) ?_
  intro pg en s m below meth c hx hb hml hr hown hts hlocks hK hZ hb0 hG hS ls hl
  have hf121 := hts (.fieldLink RX7 121 "VideoBridgeModel" "ticks" "I") (by decide +kernel)
  have hf66 := hts (.fieldLink RX7 66 "VideoBridgeModel" "code" "I") (by decide +kernel)
  have hinX7 : ∀ w ∈ u_ws RX7 TX7 25, w ∈ wsX7_tick := by decide +kernel
  skip
  obtain ⟨hI, hL, h6, hBY⟩ := id hM
  have hBT := hI.B
  have hc1 := hI.c
  have htI := hI.t
  refine lv_aload_n hx hb dX7_tick_0 rfl (lv_at hl 0 rfl) ?_
  refine zb_iconst (n := 0) hx hb dX7_tick_1 (by decide) ?_
  refine zp_MO_code hx hb hts hinX7 hown hf66 hS hK hG dX7_tick_2 (fun H locs hG hS => ?_)
  refine lv_aload_n hx hb dX7_tick_5 rfl (lv_at hl 0 rfl) ?_
  refine zg_MO_ticks hx hb hts hinX7 hown hf121 hK hG (n := T.1 0 3 0) rfl dX7_tick_6 ?_
  have hcode : 0 = 0 := by (first | rfl | ((repeat' split) <;> first | rfl | (exfalso; omega) | contradiction | (exfalso; simp_all; done)))
  exact zm_iret hx hb hr hlocks hG hS (by omega) (by omega) ⟨_, _, rfl, by rw [hcode]; exact zy_N hBY (by decide), Or.inl ⟨hcode, rfl, rfl⟩⟩ dX7_tick_9

set_option maxRecDepth 100000 in
set_option maxHeartbeats 4000000 in
theorem c_X7_changes (l : Launch) {E : za_E} {b : Nat} {ad : za_Ad} {S X T Y : za_S} {ow : Int64} {dw : UInt64}  (hM : zs_M T Y) : Met l yX7_changes wsX7_changes ({ frames := 0, cells := 0, slots := 0, locals := 0 } : Room) (za_Pc E b (ad, S, X, T, Y, ow, dw) [.ref (ad 14 0)]) (za_Qi E b (fun r u => ∃ T2 Y2, u = (ad, S, X, T2, Y2, ow, dw) ∧ zy Y2 (0) ∧ ((0 = 0 ∧ T2 = T ∧ r = nI (T.1 7 8 0)) ∨ (0 ≠ 0 ∧ T2 = T)))) (0) (0) (za_A b) := by
  refine zm_met (ccm := cX7_changes) (maxL := 1) (ret := (some .int)) (ws' := _) (own := RX7) (lv := [(0, .ref (ad 14 0))]) (by decide) rfl rfl rfl (by simp [lg_sl, Value.category]) ?_
  intro pg en s m below meth c hx hb hml hr hown hts hlocks hK hZ hb0 hG hS ls hl
  have hf109 := hts (.fieldLink RX7 109 "VideoBridgeModel" "turns" "I") (by decide +kernel)
  have hf66 := hts (.fieldLink RX7 66 "VideoBridgeModel" "code" "I") (by decide +kernel)
  have hinX7 : ∀ w ∈ u_ws RX7 TX7 25, w ∈ wsX7_changes := by decide +kernel
  skip
  obtain ⟨hI, hL, h6, hBY⟩ := id hM
  have hBT := hI.B
  have hc1 := hI.c
  have htI := hI.t
  refine lv_aload_n hx hb dX7_changes_0 rfl (lv_at hl 0 rfl) ?_
  refine zb_iconst (n := 0) hx hb dX7_changes_1 (by decide) ?_
  refine zp_MO_code hx hb hts hinX7 hown hf66 hS hK hG dX7_changes_2 (fun H locs hG hS => ?_)
  refine lv_aload_n hx hb dX7_changes_5 rfl (lv_at hl 0 rfl) ?_
  refine zg_MO_turns hx hb hts hinX7 hown hf109 hK hG (n := T.1 7 8 0) rfl dX7_changes_6 ?_
  have hcode : 0 = 0 := by (first | rfl | ((repeat' split) <;> first | rfl | (exfalso; omega) | contradiction | (exfalso; simp_all; done)))
  exact zm_iret hx hb hr hlocks hG hS (by omega) (by omega) ⟨_, _, rfl, by rw [hcode]; exact zy_N hBY (by decide), Or.inl ⟨hcode, rfl, rfl⟩⟩ dX7_changes_9

set_option maxRecDepth 100000 in
set_option maxHeartbeats 4000000 in
theorem c_X7_sent (l : Launch) {E : za_E} {b : Nat} {ad : za_Ad} {S X T Y : za_S} {ow : Int64} {dw : UInt64}  (hM : zs_M T Y) : Met l yX7_sent wsX7_sent ({ frames := 0, cells := 0, slots := 0, locals := 0 } : Room) (za_Pc E b (ad, S, X, T, Y, ow, dw) [.ref (ad 14 0)]) (za_Ql E b (fun r u => ∃ T2 Y2, u = (ad, S, X, T2, Y2, ow, dw) ∧ zy Y2 (0) ∧ ((0 = 0 ∧ T2 = T ∧ r = lN (T.1 0 4 0)) ∨ (0 ≠ 0 ∧ T2 = T)))) (0) (0) (za_A b) := by
  refine zm_met (ccm := cX7_sent) (maxL := 1) (ret := (some .long)) (ws' := _) (own := RX7) (lv := [(0, .ref (ad 14 0))]) (by decide) rfl rfl rfl (by simp [lg_sl, Value.category]) ?_
  intro pg en s m below meth c hx hb hml hr hown hts hlocks hK hZ hb0 hG hS ls hl
  have hf124 := hts (.fieldLink RX7 124 "VideoBridgeModel" "sent" "J") (by decide +kernel)
  have hf66 := hts (.fieldLink RX7 66 "VideoBridgeModel" "code" "I") (by decide +kernel)
  have hinX7 : ∀ w ∈ u_ws RX7 TX7 25, w ∈ wsX7_sent := by decide +kernel
  skip
  obtain ⟨hI, hL, h6, hBY⟩ := id hM
  have hBT := hI.B
  have hc1 := hI.c
  have htI := hI.t
  refine lv_aload_n hx hb dX7_sent_0 rfl (lv_at hl 0 rfl) ?_
  refine zb_iconst (n := 0) hx hb dX7_sent_1 (by decide) ?_
  refine zp_MO_code hx hb hts hinX7 hown hf66 hS hK hG dX7_sent_2 (fun H locs hG hS => ?_)
  refine lv_aload_n hx hb dX7_sent_5 rfl (lv_at hl 0 rfl) ?_
  refine zg_MO_sent hx hb hts hinX7 hown hf124 hK hG (n := T.1 0 4 0) rfl dX7_sent_6 ?_
  have hcode : 0 = 0 := by (first | rfl | ((repeat' split) <;> first | rfl | (exfalso; omega) | contradiction | (exfalso; simp_all; done)))
  exact zm_lret hx hb hr hlocks hG hS (by omega) (by omega) ⟨_, _, rfl, by rw [hcode]; exact zy_N hBY (by decide), Or.inl ⟨hcode, rfl, rfl⟩⟩ dX7_sent_9

set_option maxRecDepth 100000 in
set_option maxHeartbeats 4000000 in
theorem c_X7_setBudget (l : Launch) {E : za_E} {b : Nat} {ad : za_Ad} {S X T Y : za_S} {ow : Int64} {dw : UInt64} (p0 p1 : Int32) (hM : zs_M T Y) : Met l yX7_setBudget wsX7_setBudget ({ frames := 2, cells := 0, slots := 0, locals := 43 } : Room) (za_Pc E b (ad, S, X, T, Y, ow, dw) [.ref (ad 14 0), .int p0, .int p1]) (za_Qi E b (fun r u => ∃ T2 Y2, u = (ad, S, X, T2, Y2, ow, dw) ∧ zy Y2 (zo_set T (zs_ix p0) (zs_ix p1) 9999) ∧ ((zo_set T (zs_ix p0) (zs_ix p1) 9999 = 0 ∧ T2 = za_N T 1 (zs_ix p0) 0 (zs_ix p1) ∧ r = nI (T.1 1 (zs_ix p0) 0)) ∨ (zo_set T (zs_ix p0) (zs_ix p1) 9999 ≠ 0 ∧ T2 = T)))) (0) (0) (za_A b) := by
  refine zm_met (ccm := cX7_setBudget) (maxL := 4) (ret := (some .int)) (ws' := _) (own := RX7) (lv := [(0, .ref (ad 14 0)), (1, .int p0), (2, .int p1)]) (by decide) rfl rfl rfl (by simp [lg_sl, Value.category]) ?_
  intro pg en s m below meth c hx hb hml hr hown hts hlocks hK hZ hb0 hG hS ls hl
  have hf66 := hts (.fieldLink RX7 66 "VideoBridgeModel" "code" "I") (by decide +kernel)
  have hf7 := hts (.fieldLink RX7 7 "VideoBridgeModel" "budgets" "[I") (by decide +kernel)
  have hinX7 : ∀ w ∈ u_ws RX7 TX7 25, w ∈ wsX7_setBudget := by decide +kernel
  skip
  obtain ⟨hI, hL, h6, hBY⟩ := id hM
  have hBT := hI.B
  have hc1 := hI.c
  have htI := hI.t
  refine lv_aload_n hx hb dX7_setBudget_0 rfl (lv_at hl 0 rfl) ?_
  refine zb_iconst (n := 0) hx hb dX7_setBudget_1 (by decide) ?_
  refine zp_MO_code hx hb hts hinX7 hown hf66 hS hK hG dX7_setBudget_2 (fun H locs hG hS => ?_)
  refine lv_aload_n hx hb dX7_setBudget_5 rfl (lv_at hl 0 rfl) ?_
  refine lv_iload_n hx hb dX7_setBudget_6 rfl (lv_at hl 1 rfl) ?_
  refine zc_Vi (As := [.int p0]) (rest := []) hK hZ hb0 hG hS hx hb hml hown hts (c_X7_isPerson l p0 hBT) (cwV 1 hts gX7_setBudget_X7_isPerson rfl rfl rfl (by decide +kernel) ⟨Nat.le_of_ble_eq_true rfl, Nat.le_of_ble_eq_true rfl⟩) (za_recv (q := (RX7, TX7, 25)) hK hG 14 0 ⟨by omega, rfl⟩ rfl rfl rfl) rfl hl rfl (Nat.le_of_ble_eq_true rfl) dX7_setBudget_7 ⟨Nat.le_of_ble_eq_true rfl, Nat.le_of_ble_eq_true rfl⟩ (fun r_7 u_7 H locs hp hG hS => ?_)
  obtain ⟨rfl, rfl⟩ := hp
  refine zb_if_ne (x := if zs_ix p0 < T.1 0 0 0 then 1 else 0) (tgt := 19) hx hb (zs_cl _) dX7_setBudget_10 (by decide) (fun c_10 => ?_) (fun c_10 => ?_)
  · have q_10 : zs_ix p0 < T.1 0 0 0 := zs_c1 c_10
    have hl : lv_has ls 4 [(0, .ref (ad 14 0)), (1, .int (nI (zs_ix p0))), (2, .int p1)] := by rw [zs_ixe q_10 (by omega)]; exact hl
    refine lv_iload_n hx hb dX7_setBudget_19 rfl (lv_at hl 2 rfl) ?_
    refine zb_iconst (n := 0) hx hb dX7_setBudget_20 (by decide) ?_
    refine zb_sipush (n := 9999) hx hb dX7_setBudget_21 (by decide) ?_
    refine zc_Si (As := [.int p1, .int (nI 0), .int (nI 9999)]) (rest := []) hK hZ hb0 hG hS hx hb hml hown hts (c_X7_in l p1 (nI 0) (nI 9999)) (cwS 3 hts gX7_setBudget_X7_in rfl rfl rfl (by decide +kernel) ⟨Nat.le_of_ble_eq_true rfl, Nat.le_of_ble_eq_true rfl⟩) rfl hl rfl (Nat.le_of_ble_eq_true rfl) dX7_setBudget_24 ⟨Nat.le_of_ble_eq_true rfl, Nat.le_of_ble_eq_true rfl⟩ (fun r_24 u_24 H locs hp hG hS => ?_)
    rw [zm_in_z (by decide)] at hp
    obtain ⟨rfl, rfl⟩ := hp
    refine zb_if_ne (x := if zs_ix p1 ≤ 9999 then 1 else 0) (tgt := 36) hx hb (zs_cl _) dX7_setBudget_27 (by decide) (fun c_27 => ?_) (fun c_27 => ?_)
    · have q_27 : zs_ix p1 ≤ 9999 := zs_c1 c_27
      have hl : lv_has ls 4 [(0, .ref (ad 14 0)), (1, .int (nI (zs_ix p0))), (2, .int (nI (zs_ix p1)))] := by rw [zs_ixe (Nat.lt_succ_of_le q_27) (by omega)]; exact hl
      refine lv_aload_n hx hb dX7_setBudget_36 rfl (lv_at hl 0 rfl) ?_
      refine zg_MO_budgets hx hb hts hinX7 hown hf7 hK hG dX7_setBudget_37 ?_
      refine lv_iload_n hx hb dX7_setBudget_40 rfl (lv_at hl 1 rfl) ?_
      refine zld_MB (n := T.1 1 (zs_ix p0) 0) hx hb hK hG (by omega) rfl dX7_setBudget_41 ?_
      refine lv_istore_n (lv' := [(3, .int (nI (T.1 1 (zs_ix p0) 0))), (0, .ref (ad 14 0)), (1, .int (nI (zs_ix p0))), (2, .int (nI (zs_ix p1)))]) hx hb dX7_setBudget_42 rfl hl (by decide) rfl (fun ls hl => ?_)
      refine lv_aload_n hx hb dX7_setBudget_43 rfl (lv_at hl 1 rfl) ?_
      refine zg_MO_budgets hx hb hts hinX7 hown hf7 hK hG dX7_setBudget_44 ?_
      refine lv_iload_n hx hb dX7_setBudget_47 rfl (lv_at hl 2 rfl) ?_
      refine lv_iload_n hx hb dX7_setBudget_48 rfl (lv_at hl 3 rfl) ?_
      refine zst_MB hx hb hK hG hS (by omega) dX7_setBudget_49 (fun H locs hG hS => ?_)
      refine lv_iload_n hx hb dX7_setBudget_50 rfl (lv_at hl 0 rfl) ?_
      have hcode : zo_set T (zs_ix p0) (zs_ix p1) 9999 = 0 := by unfold zo_set; (first | rfl | ((repeat' split) <;> first | rfl | (exfalso; omega) | contradiction | (exfalso; simp_all; done)))
      exact zm_iret hx hb hr hlocks hG hS (by omega) (by omega) ⟨_, _, rfl, by rw [hcode]; exact zy_N hBY (by decide), Or.inl ⟨hcode, rfl, rfl⟩⟩ dX7_setBudget_51
    · have q_27 : ¬ (zs_ix p1 ≤ 9999) := zs_c0 c_27
      refine lv_aload_n hx hb dX7_setBudget_30 rfl (lv_at hl 0 rfl) ?_
      refine zb_iconst (n := 2) hx hb dX7_setBudget_31 (by decide) ?_
      refine zc_Vi (As := [.int (nI 2)]) (rest := []) hK hZ hb0 hG hS hx hb hml hown hts (c_X7_fails l 2) (cwV 1 hts gX7_setBudget_X7_fails rfl rfl rfl (by decide +kernel) ⟨Nat.le_of_ble_eq_true rfl, Nat.le_of_ble_eq_true rfl⟩) (za_recv (q := (RX7, TX7, 25)) hK hG 14 0 ⟨by omega, rfl⟩ rfl rfl rfl) rfl hl rfl (Nat.le_of_ble_eq_true rfl) dX7_setBudget_32 ⟨Nat.le_of_ble_eq_true rfl, Nat.le_of_ble_eq_true rfl⟩ (fun r_32 u_32 H locs hp hG hS => ?_)
      obtain ⟨rfl, rfl⟩ := hp
      have hcode : zo_set T (zs_ix p0) (zs_ix p1) 9999 = 2 := by unfold zo_set; (first | rfl | ((repeat' split) <;> first | rfl | (exfalso; omega) | contradiction | (exfalso; simp_all; done)))
      exact zm_iret hx hb hr hlocks hG hS (by omega) (by omega) ⟨_, _, rfl, by rw [hcode]; exact zy_N (zs_N_B hBY (by decide)) (by decide), Or.inr ⟨by rw [hcode]; decide, rfl⟩⟩ dX7_setBudget_35
  · have q_10 : ¬ (zs_ix p0 < T.1 0 0 0) := zs_c0 c_10
    refine lv_aload_n hx hb dX7_setBudget_13 rfl (lv_at hl 0 rfl) ?_
    refine zb_iconst (n := 1) hx hb dX7_setBudget_14 (by decide) ?_
    refine zc_Vi (As := [.int (nI 1)]) (rest := []) hK hZ hb0 hG hS hx hb hml hown hts (c_X7_fails l 1) (cwV 1 hts gX7_setBudget_X7_fails rfl rfl rfl (by decide +kernel) ⟨Nat.le_of_ble_eq_true rfl, Nat.le_of_ble_eq_true rfl⟩) (za_recv (q := (RX7, TX7, 25)) hK hG 14 0 ⟨by omega, rfl⟩ rfl rfl rfl) rfl hl rfl (Nat.le_of_ble_eq_true rfl) dX7_setBudget_15 ⟨Nat.le_of_ble_eq_true rfl, Nat.le_of_ble_eq_true rfl⟩ (fun r_15 u_15 H locs hp hG hS => ?_)
    obtain ⟨rfl, rfl⟩ := hp
    have hcode : zo_set T (zs_ix p0) (zs_ix p1) 9999 = 1 := by unfold zo_set; (first | rfl | ((repeat' split) <;> first | rfl | (exfalso; omega) | contradiction | (exfalso; simp_all; done)))
    exact zm_iret hx hb hr hlocks hG hS (by omega) (by omega) ⟨_, _, rfl, by rw [hcode]; exact zy_N (zs_N_B hBY (by decide)) (by decide), Or.inr ⟨by rw [hcode]; decide, rfl⟩⟩ dX7_setBudget_18

set_option maxRecDepth 100000 in
set_option maxHeartbeats 4000000 in
theorem c_X7_setSends (l : Launch) {E : za_E} {b : Nat} {ad : za_Ad} {S X T Y : za_S} {ow : Int64} {dw : UInt64} (p0 p1 : Int32) (hM : zs_M T Y) : Met l yX7_setSends wsX7_setSends ({ frames := 2, cells := 0, slots := 0, locals := 43 } : Room) (za_Pc E b (ad, S, X, T, Y, ow, dw) [.ref (ad 14 0), .int p0, .int p1]) (za_Qi E b (fun r u => ∃ T2 Y2, u = (ad, S, X, T2, Y2, ow, dw) ∧ zy Y2 (zo_set T (zs_ix p0) (zs_ix p1) 3) ∧ ((zo_set T (zs_ix p0) (zs_ix p1) 3 = 0 ∧ T2 = za_N T 2 (zs_ix p0) 0 (zs_ix p1) ∧ r = nI (T.1 2 (zs_ix p0) 0)) ∨ (zo_set T (zs_ix p0) (zs_ix p1) 3 ≠ 0 ∧ T2 = T)))) (0) (0) (za_A b) := by
  refine zm_met (ccm := cX7_setSends) (maxL := 4) (ret := (some .int)) (ws' := _) (own := RX7) (lv := [(0, .ref (ad 14 0)), (1, .int p0), (2, .int p1)]) (by decide) rfl rfl rfl (by simp [lg_sl, Value.category]) ?_
  intro pg en s m below meth c hx hb hml hr hown hts hlocks hK hZ hb0 hG hS ls hl
  have hf13 := hts (.fieldLink RX7 13 "VideoBridgeModel" "sends" "[I") (by decide +kernel)
  have hf66 := hts (.fieldLink RX7 66 "VideoBridgeModel" "code" "I") (by decide +kernel)
  have hinX7 : ∀ w ∈ u_ws RX7 TX7 25, w ∈ wsX7_setSends := by decide +kernel
  skip
  obtain ⟨hI, hL, h6, hBY⟩ := id hM
  have hBT := hI.B
  have hc1 := hI.c
  have htI := hI.t
  refine lv_aload_n hx hb dX7_setSends_0 rfl (lv_at hl 0 rfl) ?_
  refine zb_iconst (n := 0) hx hb dX7_setSends_1 (by decide) ?_
  refine zp_MO_code hx hb hts hinX7 hown hf66 hS hK hG dX7_setSends_2 (fun H locs hG hS => ?_)
  refine lv_aload_n hx hb dX7_setSends_5 rfl (lv_at hl 0 rfl) ?_
  refine lv_iload_n hx hb dX7_setSends_6 rfl (lv_at hl 1 rfl) ?_
  refine zc_Vi (As := [.int p0]) (rest := []) hK hZ hb0 hG hS hx hb hml hown hts (c_X7_isPerson l p0 hBT) (cwV 1 hts gX7_setSends_X7_isPerson rfl rfl rfl (by decide +kernel) ⟨Nat.le_of_ble_eq_true rfl, Nat.le_of_ble_eq_true rfl⟩) (za_recv (q := (RX7, TX7, 25)) hK hG 14 0 ⟨by omega, rfl⟩ rfl rfl rfl) rfl hl rfl (Nat.le_of_ble_eq_true rfl) dX7_setSends_7 ⟨Nat.le_of_ble_eq_true rfl, Nat.le_of_ble_eq_true rfl⟩ (fun r_7 u_7 H locs hp hG hS => ?_)
  obtain ⟨rfl, rfl⟩ := hp
  refine zb_if_ne (x := if zs_ix p0 < T.1 0 0 0 then 1 else 0) (tgt := 19) hx hb (zs_cl _) dX7_setSends_10 (by decide) (fun c_10 => ?_) (fun c_10 => ?_)
  · have q_10 : zs_ix p0 < T.1 0 0 0 := zs_c1 c_10
    have hl : lv_has ls 4 [(0, .ref (ad 14 0)), (1, .int (nI (zs_ix p0))), (2, .int p1)] := by rw [zs_ixe q_10 (by omega)]; exact hl
    refine lv_iload_n hx hb dX7_setSends_19 rfl (lv_at hl 2 rfl) ?_
    refine zb_iconst (n := 0) hx hb dX7_setSends_20 (by decide) ?_
    refine zb_iconst (n := 3) hx hb dX7_setSends_21 (by decide) ?_
    refine zc_Si (As := [.int p1, .int (nI 0), .int (nI 3)]) (rest := []) hK hZ hb0 hG hS hx hb hml hown hts (c_X7_in l p1 (nI 0) (nI 3)) (cwS 3 hts gX7_setSends_X7_in rfl rfl rfl (by decide +kernel) ⟨Nat.le_of_ble_eq_true rfl, Nat.le_of_ble_eq_true rfl⟩) rfl hl rfl (Nat.le_of_ble_eq_true rfl) dX7_setSends_22 ⟨Nat.le_of_ble_eq_true rfl, Nat.le_of_ble_eq_true rfl⟩ (fun r_22 u_22 H locs hp hG hS => ?_)
    rw [zm_in_z (by decide)] at hp
    obtain ⟨rfl, rfl⟩ := hp
    refine zb_if_ne (x := if zs_ix p1 ≤ 3 then 1 else 0) (tgt := 34) hx hb (zs_cl _) dX7_setSends_25 (by decide) (fun c_25 => ?_) (fun c_25 => ?_)
    · have q_25 : zs_ix p1 ≤ 3 := zs_c1 c_25
      have hl : lv_has ls 4 [(0, .ref (ad 14 0)), (1, .int (nI (zs_ix p0))), (2, .int (nI (zs_ix p1)))] := by rw [zs_ixe (Nat.lt_succ_of_le q_25) (by omega)]; exact hl
      refine lv_aload_n hx hb dX7_setSends_34 rfl (lv_at hl 0 rfl) ?_
      refine zg_MO_sends hx hb hts hinX7 hown hf13 hK hG dX7_setSends_35 ?_
      refine lv_iload_n hx hb dX7_setSends_38 rfl (lv_at hl 1 rfl) ?_
      refine zld_MS (n := T.1 2 (zs_ix p0) 0) hx hb hK hG (by omega) rfl dX7_setSends_39 ?_
      refine lv_istore_n (lv' := [(3, .int (nI (T.1 2 (zs_ix p0) 0))), (0, .ref (ad 14 0)), (1, .int (nI (zs_ix p0))), (2, .int (nI (zs_ix p1)))]) hx hb dX7_setSends_40 rfl hl (by decide) rfl (fun ls hl => ?_)
      refine lv_aload_n hx hb dX7_setSends_41 rfl (lv_at hl 1 rfl) ?_
      refine zg_MO_sends hx hb hts hinX7 hown hf13 hK hG dX7_setSends_42 ?_
      refine lv_iload_n hx hb dX7_setSends_45 rfl (lv_at hl 2 rfl) ?_
      refine lv_iload_n hx hb dX7_setSends_46 rfl (lv_at hl 3 rfl) ?_
      refine zst_MS hx hb hK hG hS (by omega) dX7_setSends_47 (fun H locs hG hS => ?_)
      refine lv_iload_n hx hb dX7_setSends_48 rfl (lv_at hl 0 rfl) ?_
      have hcode : zo_set T (zs_ix p0) (zs_ix p1) 3 = 0 := by unfold zo_set; (first | rfl | ((repeat' split) <;> first | rfl | (exfalso; omega) | contradiction | (exfalso; simp_all; done)))
      exact zm_iret hx hb hr hlocks hG hS (by omega) (by omega) ⟨_, _, rfl, by rw [hcode]; exact zy_N hBY (by decide), Or.inl ⟨hcode, rfl, rfl⟩⟩ dX7_setSends_49
    · have q_25 : ¬ (zs_ix p1 ≤ 3) := zs_c0 c_25
      refine lv_aload_n hx hb dX7_setSends_28 rfl (lv_at hl 0 rfl) ?_
      refine zb_iconst (n := 2) hx hb dX7_setSends_29 (by decide) ?_
      refine zc_Vi (As := [.int (nI 2)]) (rest := []) hK hZ hb0 hG hS hx hb hml hown hts (c_X7_fails l 2) (cwV 1 hts gX7_setSends_X7_fails rfl rfl rfl (by decide +kernel) ⟨Nat.le_of_ble_eq_true rfl, Nat.le_of_ble_eq_true rfl⟩) (za_recv (q := (RX7, TX7, 25)) hK hG 14 0 ⟨by omega, rfl⟩ rfl rfl rfl) rfl hl rfl (Nat.le_of_ble_eq_true rfl) dX7_setSends_30 ⟨Nat.le_of_ble_eq_true rfl, Nat.le_of_ble_eq_true rfl⟩ (fun r_30 u_30 H locs hp hG hS => ?_)
      obtain ⟨rfl, rfl⟩ := hp
      have hcode : zo_set T (zs_ix p0) (zs_ix p1) 3 = 2 := by unfold zo_set; (first | rfl | ((repeat' split) <;> first | rfl | (exfalso; omega) | contradiction | (exfalso; simp_all; done)))
      exact zm_iret hx hb hr hlocks hG hS (by omega) (by omega) ⟨_, _, rfl, by rw [hcode]; exact zy_N (zs_N_B hBY (by decide)) (by decide), Or.inr ⟨by rw [hcode]; decide, rfl⟩⟩ dX7_setSends_33
  · have q_10 : ¬ (zs_ix p0 < T.1 0 0 0) := zs_c0 c_10
    refine lv_aload_n hx hb dX7_setSends_13 rfl (lv_at hl 0 rfl) ?_
    refine zb_iconst (n := 1) hx hb dX7_setSends_14 (by decide) ?_
    refine zc_Vi (As := [.int (nI 1)]) (rest := []) hK hZ hb0 hG hS hx hb hml hown hts (c_X7_fails l 1) (cwV 1 hts gX7_setSends_X7_fails rfl rfl rfl (by decide +kernel) ⟨Nat.le_of_ble_eq_true rfl, Nat.le_of_ble_eq_true rfl⟩) (za_recv (q := (RX7, TX7, 25)) hK hG 14 0 ⟨by omega, rfl⟩ rfl rfl rfl) rfl hl rfl (Nat.le_of_ble_eq_true rfl) dX7_setSends_15 ⟨Nat.le_of_ble_eq_true rfl, Nat.le_of_ble_eq_true rfl⟩ (fun r_15 u_15 H locs hp hG hS => ?_)
    obtain ⟨rfl, rfl⟩ := hp
    have hcode : zo_set T (zs_ix p0) (zs_ix p1) 3 = 1 := by unfold zo_set; (first | rfl | ((repeat' split) <;> first | rfl | (exfalso; omega) | contradiction | (exfalso; simp_all; done)))
    exact zm_iret hx hb hr hlocks hG hS (by omega) (by omega) ⟨_, _, rfl, by rw [hcode]; exact zy_N (zs_N_B hBY (by decide)) (by decide), Or.inr ⟨by rw [hcode]; decide, rfl⟩⟩ dX7_setSends_18

set_option maxRecDepth 100000 in
set_option maxHeartbeats 4000000 in
theorem c_X7_setLoud (l : Launch) {E : za_E} {b : Nat} {ad : za_Ad} {S X T Y : za_S} {ow : Int64} {dw : UInt64} (p0 p1 : Int32) (hM : zs_M T Y) : Met l yX7_setLoud wsX7_setLoud ({ frames := 2, cells := 0, slots := 0, locals := 43 } : Room) (za_Pc E b (ad, S, X, T, Y, ow, dw) [.ref (ad 14 0), .int p0, .int p1]) (za_Qi E b (fun r u => ∃ T2 Y2, u = (ad, S, X, T2, Y2, ow, dw) ∧ zy Y2 (zo_set T (zs_ix p0) (zs_ix p1) 99) ∧ ((zo_set T (zs_ix p0) (zs_ix p1) 99 = 0 ∧ T2 = za_N T 3 (zs_ix p0) 0 (zs_ix p1) ∧ r = nI (T.1 3 (zs_ix p0) 0)) ∨ (zo_set T (zs_ix p0) (zs_ix p1) 99 ≠ 0 ∧ T2 = T)))) (0) (0) (za_A b) := by
  refine zm_met (ccm := cX7_setLoud) (maxL := 4) (ret := (some .int)) (ws' := _) (own := RX7) (lv := [(0, .ref (ad 14 0)), (1, .int p0), (2, .int p1)]) (by decide) rfl rfl rfl (by simp [lg_sl, Value.category]) ?_
  intro pg en s m below meth c hx hb hml hr hown hts hlocks hK hZ hb0 hG hS ls hl
  have hf16 := hts (.fieldLink RX7 16 "VideoBridgeModel" "louds" "[I") (by decide +kernel)
  have hf66 := hts (.fieldLink RX7 66 "VideoBridgeModel" "code" "I") (by decide +kernel)
  have hinX7 : ∀ w ∈ u_ws RX7 TX7 25, w ∈ wsX7_setLoud := by decide +kernel
  skip
  obtain ⟨hI, hL, h6, hBY⟩ := id hM
  have hBT := hI.B
  have hc1 := hI.c
  have htI := hI.t
  refine lv_aload_n hx hb dX7_setLoud_0 rfl (lv_at hl 0 rfl) ?_
  refine zb_iconst (n := 0) hx hb dX7_setLoud_1 (by decide) ?_
  refine zp_MO_code hx hb hts hinX7 hown hf66 hS hK hG dX7_setLoud_2 (fun H locs hG hS => ?_)
  refine lv_aload_n hx hb dX7_setLoud_5 rfl (lv_at hl 0 rfl) ?_
  refine lv_iload_n hx hb dX7_setLoud_6 rfl (lv_at hl 1 rfl) ?_
  refine zc_Vi (As := [.int p0]) (rest := []) hK hZ hb0 hG hS hx hb hml hown hts (c_X7_isPerson l p0 hBT) (cwV 1 hts gX7_setLoud_X7_isPerson rfl rfl rfl (by decide +kernel) ⟨Nat.le_of_ble_eq_true rfl, Nat.le_of_ble_eq_true rfl⟩) (za_recv (q := (RX7, TX7, 25)) hK hG 14 0 ⟨by omega, rfl⟩ rfl rfl rfl) rfl hl rfl (Nat.le_of_ble_eq_true rfl) dX7_setLoud_7 ⟨Nat.le_of_ble_eq_true rfl, Nat.le_of_ble_eq_true rfl⟩ (fun r_7 u_7 H locs hp hG hS => ?_)
  obtain ⟨rfl, rfl⟩ := hp
  refine zb_if_ne (x := if zs_ix p0 < T.1 0 0 0 then 1 else 0) (tgt := 19) hx hb (zs_cl _) dX7_setLoud_10 (by decide) (fun c_10 => ?_) (fun c_10 => ?_)
  · have q_10 : zs_ix p0 < T.1 0 0 0 := zs_c1 c_10
    have hl : lv_has ls 4 [(0, .ref (ad 14 0)), (1, .int (nI (zs_ix p0))), (2, .int p1)] := by rw [zs_ixe q_10 (by omega)]; exact hl
    refine lv_iload_n hx hb dX7_setLoud_19 rfl (lv_at hl 2 rfl) ?_
    refine zb_iconst (n := 0) hx hb dX7_setLoud_20 (by decide) ?_
    refine zb_bipush (n := 99) hx hb dX7_setLoud_21 (by decide) ?_
    refine zc_Si (As := [.int p1, .int (nI 0), .int (nI 99)]) (rest := []) hK hZ hb0 hG hS hx hb hml hown hts (c_X7_in l p1 (nI 0) (nI 99)) (cwS 3 hts gX7_setLoud_X7_in rfl rfl rfl (by decide +kernel) ⟨Nat.le_of_ble_eq_true rfl, Nat.le_of_ble_eq_true rfl⟩) rfl hl rfl (Nat.le_of_ble_eq_true rfl) dX7_setLoud_23 ⟨Nat.le_of_ble_eq_true rfl, Nat.le_of_ble_eq_true rfl⟩ (fun r_23 u_23 H locs hp hG hS => ?_)
    rw [zm_in_z (by decide)] at hp
    obtain ⟨rfl, rfl⟩ := hp
    refine zb_if_ne (x := if zs_ix p1 ≤ 99 then 1 else 0) (tgt := 35) hx hb (zs_cl _) dX7_setLoud_26 (by decide) (fun c_26 => ?_) (fun c_26 => ?_)
    · have q_26 : zs_ix p1 ≤ 99 := zs_c1 c_26
      have hl : lv_has ls 4 [(0, .ref (ad 14 0)), (1, .int (nI (zs_ix p0))), (2, .int (nI (zs_ix p1)))] := by rw [zs_ixe (Nat.lt_succ_of_le q_26) (by omega)]; exact hl
      refine lv_aload_n hx hb dX7_setLoud_35 rfl (lv_at hl 0 rfl) ?_
      refine zg_MO_louds hx hb hts hinX7 hown hf16 hK hG dX7_setLoud_36 ?_
      refine lv_iload_n hx hb dX7_setLoud_39 rfl (lv_at hl 1 rfl) ?_
      refine zld_ML (n := T.1 3 (zs_ix p0) 0) hx hb hK hG (by omega) rfl dX7_setLoud_40 ?_
      refine lv_istore_n (lv' := [(3, .int (nI (T.1 3 (zs_ix p0) 0))), (0, .ref (ad 14 0)), (1, .int (nI (zs_ix p0))), (2, .int (nI (zs_ix p1)))]) hx hb dX7_setLoud_41 rfl hl (by decide) rfl (fun ls hl => ?_)
      refine lv_aload_n hx hb dX7_setLoud_42 rfl (lv_at hl 1 rfl) ?_
      refine zg_MO_louds hx hb hts hinX7 hown hf16 hK hG dX7_setLoud_43 ?_
      refine lv_iload_n hx hb dX7_setLoud_46 rfl (lv_at hl 2 rfl) ?_
      refine lv_iload_n hx hb dX7_setLoud_47 rfl (lv_at hl 3 rfl) ?_
      refine zst_ML hx hb hK hG hS (by omega) dX7_setLoud_48 (fun H locs hG hS => ?_)
      refine lv_iload_n hx hb dX7_setLoud_49 rfl (lv_at hl 0 rfl) ?_
      have hcode : zo_set T (zs_ix p0) (zs_ix p1) 99 = 0 := by unfold zo_set; (first | rfl | ((repeat' split) <;> first | rfl | (exfalso; omega) | contradiction | (exfalso; simp_all; done)))
      exact zm_iret hx hb hr hlocks hG hS (by omega) (by omega) ⟨_, _, rfl, by rw [hcode]; exact zy_N hBY (by decide), Or.inl ⟨hcode, rfl, rfl⟩⟩ dX7_setLoud_50
    · have q_26 : ¬ (zs_ix p1 ≤ 99) := zs_c0 c_26
      refine lv_aload_n hx hb dX7_setLoud_29 rfl (lv_at hl 0 rfl) ?_
      refine zb_iconst (n := 2) hx hb dX7_setLoud_30 (by decide) ?_
      refine zc_Vi (As := [.int (nI 2)]) (rest := []) hK hZ hb0 hG hS hx hb hml hown hts (c_X7_fails l 2) (cwV 1 hts gX7_setLoud_X7_fails rfl rfl rfl (by decide +kernel) ⟨Nat.le_of_ble_eq_true rfl, Nat.le_of_ble_eq_true rfl⟩) (za_recv (q := (RX7, TX7, 25)) hK hG 14 0 ⟨by omega, rfl⟩ rfl rfl rfl) rfl hl rfl (Nat.le_of_ble_eq_true rfl) dX7_setLoud_31 ⟨Nat.le_of_ble_eq_true rfl, Nat.le_of_ble_eq_true rfl⟩ (fun r_31 u_31 H locs hp hG hS => ?_)
      obtain ⟨rfl, rfl⟩ := hp
      have hcode : zo_set T (zs_ix p0) (zs_ix p1) 99 = 2 := by unfold zo_set; (first | rfl | ((repeat' split) <;> first | rfl | (exfalso; omega) | contradiction | (exfalso; simp_all; done)))
      exact zm_iret hx hb hr hlocks hG hS (by omega) (by omega) ⟨_, _, rfl, by rw [hcode]; exact zy_N (zs_N_B hBY (by decide)) (by decide), Or.inr ⟨by rw [hcode]; decide, rfl⟩⟩ dX7_setLoud_34
  · have q_10 : ¬ (zs_ix p0 < T.1 0 0 0) := zs_c0 c_10
    refine lv_aload_n hx hb dX7_setLoud_13 rfl (lv_at hl 0 rfl) ?_
    refine zb_iconst (n := 1) hx hb dX7_setLoud_14 (by decide) ?_
    refine zc_Vi (As := [.int (nI 1)]) (rest := []) hK hZ hb0 hG hS hx hb hml hown hts (c_X7_fails l 1) (cwV 1 hts gX7_setLoud_X7_fails rfl rfl rfl (by decide +kernel) ⟨Nat.le_of_ble_eq_true rfl, Nat.le_of_ble_eq_true rfl⟩) (za_recv (q := (RX7, TX7, 25)) hK hG 14 0 ⟨by omega, rfl⟩ rfl rfl rfl) rfl hl rfl (Nat.le_of_ble_eq_true rfl) dX7_setLoud_15 ⟨Nat.le_of_ble_eq_true rfl, Nat.le_of_ble_eq_true rfl⟩ (fun r_15 u_15 H locs hp hG hS => ?_)
    obtain ⟨rfl, rfl⟩ := hp
    have hcode : zo_set T (zs_ix p0) (zs_ix p1) 99 = 1 := by unfold zo_set; (first | rfl | ((repeat' split) <;> first | rfl | (exfalso; omega) | contradiction | (exfalso; simp_all; done)))
    exact zm_iret hx hb hr hlocks hG hS (by omega) (by omega) ⟨_, _, rfl, by rw [hcode]; exact zy_N (zs_N_B hBY (by decide)) (by decide), Or.inr ⟨by rw [hcode]; decide, rfl⟩⟩ dX7_setLoud_18

set_option maxRecDepth 100000 in
set_option maxHeartbeats 4000000 in
theorem c_X7_addPerson (l : Launch) {E : za_E} {b : Nat} {ad : za_Ad} {S X T Y : za_S} {ow : Int64} {dw : UInt64} (p0 : Int32) (hM : zs_M T Y) : Met l yX7_addPerson wsX7_addPerson ({ frames := 1, cells := 0, slots := 0, locals := 22 } : Room) (za_Pc E b (ad, S, X, T, Y, ow, dw) [.ref (ad 14 0), .int p0]) (za_Qi E b (fun r u => ∃ T2 Y2, u = (ad, S, X, T2, Y2, ow, dw) ∧ zy Y2 (zo_ap T (zs_ix p0)) ∧ ((zo_ap T (zs_ix p0) = 0 ∧ T2 = zs_np T (zs_ix p0) ∧ r = nI (T.1 0 0 0)) ∨ (zo_ap T (zs_ix p0) ≠ 0 ∧ T2 = T)))) (0) (0) (za_A b) := by
  refine zm_met (ccm := cX7_addPerson) (maxL := 2) (ret := (some .int)) (ws' := _) (own := RX7) (lv := [(0, .ref (ad 14 0)), (1, .int p0)]) (by decide) rfl rfl rfl (by simp [lg_sl, Value.category]) ?_
  intro pg en s m below meth c hx hb hml hr hown hts hlocks hK hZ hb0 hG hS ls hl
  have hf19 := hts (.fieldLink RX7 19 "VideoBridgeModel" "roomOf" "[I") (by decide +kernel)
  have hf22 := hts (.fieldLink RX7 22 "VideoBridgeModel" "pins" "[I") (by decide +kernel)
  have hf66 := hts (.fieldLink RX7 66 "VideoBridgeModel" "code" "I") (by decide +kernel)
  have hf7 := hts (.fieldLink RX7 7 "VideoBridgeModel" "budgets" "[I") (by decide +kernel)
  have hf70 := hts (.fieldLink RX7 70 "VideoBridgeModel" "people" "I") (by decide +kernel)
  have hinX7 : ∀ w ∈ u_ws RX7 TX7 25, w ∈ wsX7_addPerson := by decide +kernel
  skip
  obtain ⟨hI, hL, h6, hBY⟩ := id hM
  have hBT := hI.B
  have hc1 := hI.c
  have htI := hI.t
  refine lv_aload_n hx hb dX7_addPerson_0 rfl (lv_at hl 0 rfl) ?_
  refine zb_iconst (n := 0) hx hb dX7_addPerson_1 (by decide) ?_
  refine zp_MO_code hx hb hts hinX7 hown hf66 hS hK hG dX7_addPerson_2 (fun H locs hG hS => ?_)
  refine lv_iload_n hx hb dX7_addPerson_5 rfl (lv_at hl 1 rfl) ?_
  refine zb_iconst (n := 0) hx hb dX7_addPerson_6 (by decide) ?_
  refine zb_sipush (n := 9999) hx hb dX7_addPerson_7 (by decide) ?_
  refine zc_Si (As := [.int p0, .int (nI 0), .int (nI 9999)]) (rest := []) hK hZ hb0 hG hS hx hb hml hown hts (c_X7_in l p0 (nI 0) (nI 9999)) (cwS 3 hts gX7_addPerson_X7_in rfl rfl rfl (by decide +kernel) ⟨Nat.le_of_ble_eq_true rfl, Nat.le_of_ble_eq_true rfl⟩) rfl hl rfl (Nat.le_of_ble_eq_true rfl) dX7_addPerson_10 ⟨Nat.le_of_ble_eq_true rfl, Nat.le_of_ble_eq_true rfl⟩ (fun r_10 u_10 H locs hp hG hS => ?_)
  rw [zm_in_z (by decide)] at hp
  obtain ⟨rfl, rfl⟩ := hp
  refine zb_if_ne (x := if zs_ix p0 ≤ 9999 then 1 else 0) (tgt := 22) hx hb (zs_cl _) dX7_addPerson_13 (by decide) (fun c_13 => ?_) (fun c_13 => ?_)
  · have q_13 : zs_ix p0 ≤ 9999 := zs_c1 c_13
    refine lv_aload_n hx hb dX7_addPerson_22 rfl (lv_at hl 0 rfl) ?_
    refine zg_MO_people hx hb hts hinX7 hown hf70 hK hG (n := T.1 0 0 0) rfl dX7_addPerson_23 ?_
    refine zb_bipush (n := 10) hx hb dX7_addPerson_26 (by decide) ?_
    refine zb_icmp_ne (x := T.1 0 0 0) (y := 10) (tgt := 37) hx hb (by have := hBT 0 0 0; omega) (by omega) dX7_addPerson_28 (by decide) (fun c_28 => ?_) (fun c_28 => ?_)
    · have hp10 : T.1 0 0 0 < 10 := by omega
      have hl : lv_has ls 2 [(0, .ref (ad 14 0)), (1, .int (nI (zs_ix p0)))] := by rw [zs_ixe (Nat.lt_succ_of_le q_13) (by omega)]; exact hl
      refine lv_aload_n hx hb dX7_addPerson_37 rfl (lv_at hl 0 rfl) ?_
      refine zg_MO_budgets hx hb hts hinX7 hown hf7 hK hG dX7_addPerson_38 ?_
      refine lv_aload_n hx hb dX7_addPerson_41 rfl (lv_at hl 0 rfl) ?_
      refine zg_MO_people hx hb hts hinX7 hown hf70 hK hG (n := T.1 0 0 0) rfl dX7_addPerson_42 ?_
      refine lv_iload_n hx hb dX7_addPerson_45 rfl (lv_at hl 1 rfl) ?_
      refine zst_MB hx hb hK hG hS (by omega) dX7_addPerson_46 (fun H locs hG hS => ?_)
      refine lv_aload_n hx hb dX7_addPerson_47 rfl (lv_at hl 0 rfl) ?_
      refine zg_MO_roomOf hx hb hts hinX7 hown hf19 hK hG dX7_addPerson_48 ?_
      refine lv_aload_n hx hb dX7_addPerson_51 rfl (lv_at hl 0 rfl) ?_
      refine zg_MO_people hx hb hts hinX7 hown hf70 hK hG (n := T.1 0 0 0) rfl dX7_addPerson_52 ?_
      refine zb_iconstm hx hb dX7_addPerson_55 ?_
      refine zst_MR hx hb hK hG hS (by omega) dX7_addPerson_56 (fun H locs hG hS => ?_)
      refine lv_aload_n hx hb dX7_addPerson_57 rfl (lv_at hl 0 rfl) ?_
      refine zg_MO_pins hx hb hts hinX7 hown hf22 hK hG dX7_addPerson_58 ?_
      refine lv_aload_n hx hb dX7_addPerson_61 rfl (lv_at hl 0 rfl) ?_
      refine zg_MO_people hx hb hts hinX7 hown hf70 hK hG (n := T.1 0 0 0) rfl dX7_addPerson_62 ?_
      refine zb_iconstm hx hb dX7_addPerson_65 ?_
      refine zst_MP hx hb hK hG hS (by omega) dX7_addPerson_66 (fun H locs hG hS => ?_)
      refine lv_aload_n hx hb dX7_addPerson_67 rfl (lv_at hl 0 rfl) ?_
      refine lv_dup hx hb dX7_addPerson_68 rfl ?_
      refine zg_MO_people hx hb hts hinX7 hown hf70 hK hG (n := T.1 0 0 0) rfl dX7_addPerson_69 ?_
      refine zb_iconst (n := 1) hx hb dX7_addPerson_72 (by decide) ?_
      refine zb_iadd hx hb dX7_addPerson_73 ?_
      refine zp_MO_people hx hb hts hinX7 hown hf70 hS hK hG dX7_addPerson_74 (fun H locs hG hS => ?_)
      refine lv_aload_n hx hb dX7_addPerson_77 rfl (lv_at hl 0 rfl) ?_
      refine zg_MO_people hx hb hts hinX7 hown hf70 hK hG (n := T.1 0 0 0 + 1) (za_Ns _ _ _ _ _) dX7_addPerson_78 ?_
      refine zb_iconst (n := 1) hx hb dX7_addPerson_81 (by decide) ?_
      refine zb_isub hx hb (by omega) dX7_addPerson_82 ?_
      have hcode : zo_ap T (zs_ix p0) = 0 := by unfold zo_ap; (first | rfl | ((repeat' split) <;> first | rfl | (exfalso; omega) | contradiction | (exfalso; simp_all; done)))
      exact zm_iret hx hb hr hlocks hG hS (by omega) (by omega) ⟨_, _, rfl, by rw [hcode]; exact zy_N hBY (by decide), Or.inl ⟨hcode, rfl, congrArg nI (Nat.add_sub_cancel _ _)⟩⟩ dX7_addPerson_83
    · refine lv_aload_n hx hb dX7_addPerson_31 rfl (lv_at hl 0 rfl) ?_
      refine zb_iconst (n := 2) hx hb dX7_addPerson_32 (by decide) ?_
      refine zc_Vi (As := [.int (nI 2)]) (rest := []) hK hZ hb0 hG hS hx hb hml hown hts (c_X7_fails l 2) (cwV 1 hts gX7_addPerson_X7_fails rfl rfl rfl (by decide +kernel) ⟨Nat.le_of_ble_eq_true rfl, Nat.le_of_ble_eq_true rfl⟩) (za_recv (q := (RX7, TX7, 25)) hK hG 14 0 ⟨by omega, rfl⟩ rfl rfl rfl) rfl hl rfl (Nat.le_of_ble_eq_true rfl) dX7_addPerson_33 ⟨Nat.le_of_ble_eq_true rfl, Nat.le_of_ble_eq_true rfl⟩ (fun r_33 u_33 H locs hp hG hS => ?_)
      obtain ⟨rfl, rfl⟩ := hp
      have hcode : zo_ap T (zs_ix p0) = 2 := by unfold zo_ap; (first | rfl | ((repeat' split) <;> first | rfl | (exfalso; omega) | contradiction | (exfalso; simp_all; done)))
      exact zm_iret hx hb hr hlocks hG hS (by omega) (by omega) ⟨_, _, rfl, by rw [hcode]; exact zy_N (zs_N_B hBY (by decide)) (by decide), Or.inr ⟨by rw [hcode]; decide, rfl⟩⟩ dX7_addPerson_36
  · have q_13 : ¬ (zs_ix p0 ≤ 9999) := zs_c0 c_13
    refine lv_aload_n hx hb dX7_addPerson_16 rfl (lv_at hl 0 rfl) ?_
    refine zb_iconst (n := 1) hx hb dX7_addPerson_17 (by decide) ?_
    refine zc_Vi (As := [.int (nI 1)]) (rest := []) hK hZ hb0 hG hS hx hb hml hown hts (c_X7_fails l 1) (cwV 1 hts gX7_addPerson_X7_fails rfl rfl rfl (by decide +kernel) ⟨Nat.le_of_ble_eq_true rfl, Nat.le_of_ble_eq_true rfl⟩) (za_recv (q := (RX7, TX7, 25)) hK hG 14 0 ⟨by omega, rfl⟩ rfl rfl rfl) rfl hl rfl (Nat.le_of_ble_eq_true rfl) dX7_addPerson_18 ⟨Nat.le_of_ble_eq_true rfl, Nat.le_of_ble_eq_true rfl⟩ (fun r_18 u_18 H locs hp hG hS => ?_)
    obtain ⟨rfl, rfl⟩ := hp
    have hcode : zo_ap T (zs_ix p0) = 1 := by unfold zo_ap; (first | rfl | ((repeat' split) <;> first | rfl | (exfalso; omega) | contradiction | (exfalso; simp_all; done)))
    exact zm_iret hx hb hr hlocks hG hS (by omega) (by omega) ⟨_, _, rfl, by rw [hcode]; exact zy_N (zs_N_B hBY (by decide)) (by decide), Or.inr ⟨by rw [hcode]; decide, rfl⟩⟩ dX7_addPerson_21

set_option maxRecDepth 100000 in
set_option maxHeartbeats 4000000 in
theorem c_X7_addRoom (l : Launch) {E : za_E} {b : Nat} {ad : za_Ad} {S X T Y : za_S} {ow : Int64} {dw : UInt64}  (hM : zs_M T Y) : Met l yX7_addRoom wsX7_addRoom ({ frames := 1, cells := 0, slots := 0, locals := 21 } : Room) (za_Pc E b (ad, S, X, T, Y, ow, dw) [.ref (ad 14 0)]) (za_Qi E b (fun r u => ∃ T2 Y2, u = (ad, S, X, T2, Y2, ow, dw) ∧ zy Y2 (zo_ar T) ∧ ((zo_ar T = 0 ∧ T2 = zs_nr T ∧ r = nI (T.1 0 1 0)) ∨ (zo_ar T ≠ 0 ∧ T2 = T)))) (0) (0) (za_A b) := by
  refine zm_met (ccm := cX7_addRoom) (maxL := 1) (ret := (some .int)) (ws' := _) (own := RX7) (lv := [(0, .ref (ad 14 0))]) (by decide) rfl rfl rfl (by simp [lg_sl, Value.category]) ?_
  intro pg en s m below meth c hx hb hml hr hown hts hlocks hK hZ hb0 hG hS ls hl
  have hf66 := hts (.fieldLink RX7 66 "VideoBridgeModel" "code" "I") (by decide +kernel)
  have hf77 := hts (.fieldLink RX7 77 "VideoBridgeModel" "rooms" "I") (by decide +kernel)
  have hinX7 : ∀ w ∈ u_ws RX7 TX7 25, w ∈ wsX7_addRoom := by decide +kernel
  skip
  obtain ⟨hI, hL, h6, hBY⟩ := id hM
  have hBT := hI.B
  have hc1 := hI.c
  have htI := hI.t
  refine lv_aload_n hx hb dX7_addRoom_0 rfl (lv_at hl 0 rfl) ?_
  refine zb_iconst (n := 0) hx hb dX7_addRoom_1 (by decide) ?_
  refine zp_MO_code hx hb hts hinX7 hown hf66 hS hK hG dX7_addRoom_2 (fun H locs hG hS => ?_)
  refine lv_aload_n hx hb dX7_addRoom_5 rfl (lv_at hl 0 rfl) ?_
  refine zg_MO_rooms hx hb hts hinX7 hown hf77 hK hG (n := T.1 0 1 0) rfl dX7_addRoom_6 ?_
  refine zb_bipush (n := 6) hx hb dX7_addRoom_9 (by decide) ?_
  refine zb_icmp_ne (x := T.1 0 1 0) (y := 6) (tgt := 22) hx hb (by have := hBT 0 1 0; omega) (by omega) dX7_addRoom_11 (by decide) (fun c_11 => ?_) (fun c_11 => ?_)
  · refine lv_aload_n hx hb dX7_addRoom_22 rfl (lv_at hl 0 rfl) ?_
    refine zc_Vi (As := []) (rest := []) hK hZ hb0 hG hS hx hb hml hown hts (c_X7_makesRoom l (by omega)) (cwV 0 hts gX7_addRoom_X7_makesRoom rfl rfl rfl (by decide +kernel) ⟨Nat.le_of_ble_eq_true rfl, Nat.le_of_ble_eq_true rfl⟩) (za_recv (q := (RX7, TX7, 25)) hK hG 14 0 ⟨by omega, rfl⟩ rfl rfl rfl) rfl hl rfl (Nat.le_of_ble_eq_true rfl) dX7_addRoom_23 ⟨Nat.le_of_ble_eq_true rfl, Nat.le_of_ble_eq_true rfl⟩ (fun r_23 u_23 H locs hp hG hS => ?_)
    obtain ⟨rfl, rfl⟩ := hp
    have hcode : zo_ar T = 0 := by unfold zo_ar; (first | rfl | ((repeat' split) <;> first | rfl | (exfalso; omega) | contradiction | (exfalso; simp_all; done)))
    exact zm_iret hx hb hr hlocks hG hS (by omega) (by omega) ⟨_, _, rfl, by rw [hcode]; exact zy_N hBY (by decide), Or.inl ⟨hcode, rfl, rfl⟩⟩ dX7_addRoom_26
  · refine lv_aload_n hx hb dX7_addRoom_14 rfl (lv_at hl 0 rfl) ?_
    refine zb_iconst (n := 1) hx hb dX7_addRoom_15 (by decide) ?_
    refine zc_Vi (As := [.int (nI 1)]) (rest := []) hK hZ hb0 hG hS hx hb hml hown hts (c_X7_fails l 1) (cwV 1 hts gX7_addRoom_X7_fails rfl rfl rfl (by decide +kernel) ⟨Nat.le_of_ble_eq_true rfl, Nat.le_of_ble_eq_true rfl⟩) (za_recv (q := (RX7, TX7, 25)) hK hG 14 0 ⟨by omega, rfl⟩ rfl rfl rfl) rfl hl rfl (Nat.le_of_ble_eq_true rfl) dX7_addRoom_16 ⟨Nat.le_of_ble_eq_true rfl, Nat.le_of_ble_eq_true rfl⟩ (fun r_16 u_16 H locs hp hG hS => ?_)
    obtain ⟨rfl, rfl⟩ := hp
    refine zb_goto (tgt := 26) hx hb dX7_addRoom_19 (by decide) ?_
    have hcode : zo_ar T = 1 := by unfold zo_ar; (first | rfl | ((repeat' split) <;> first | rfl | (exfalso; omega) | contradiction | (exfalso; simp_all; done)))
    exact zm_iret hx hb hr hlocks hG hS (by omega) (by omega) ⟨_, _, rfl, by rw [hcode]; exact zy_N (zs_N_B hBY (by decide)) (by decide), Or.inr ⟨by rw [hcode]; decide, rfl⟩⟩ dX7_addRoom_26

set_option maxRecDepth 100000 in
set_option maxHeartbeats 4000000 in
theorem c_X7_roomOf (l : Launch) {E : za_E} {b : Nat} {ad : za_Ad} {S X T Y : za_S} {ow : Int64} {dw : UInt64} (p0 : Int32) (hM : zs_M T Y) : Met l yX7_roomOf wsX7_roomOf ({ frames := 2, cells := 0, slots := 0, locals := 43 } : Room) (za_Pc E b (ad, S, X, T, Y, ow, dw) [.ref (ad 14 0), .int p0]) (za_Qi E b (fun r u => ∃ T2 Y2, u = (ad, S, X, T2, Y2, ow, dw) ∧ zy Y2 (zo_po T (zs_ix p0) 0) ∧ ((zo_po T (zs_ix p0) 0 = 0 ∧ T2 = T ∧ r = nI ((T.2 0 (zs_ix p0) 0).getD 0)) ∨ (zo_po T (zs_ix p0) 0 ≠ 0 ∧ T2 = T)))) (0) (0) (za_A b) := by
  refine zm_met (ccm := cX7_roomOf) (maxL := 2) (ret := (some .int)) (ws' := _) (own := RX7) (lv := [(0, .ref (ad 14 0)), (1, .int p0)]) (by decide) rfl rfl rfl (by simp [lg_sl, Value.category]) ?_
  intro pg en s m below meth c hx hb hml hr hown hts hlocks hK hZ hb0 hG hS ls hl
  have hf19 := hts (.fieldLink RX7 19 "VideoBridgeModel" "roomOf" "[I") (by decide +kernel)
  have hf66 := hts (.fieldLink RX7 66 "VideoBridgeModel" "code" "I") (by decide +kernel)
  have hinX7 : ∀ w ∈ u_ws RX7 TX7 25, w ∈ wsX7_roomOf := by decide +kernel
  skip
  obtain ⟨hI, hL, h6, hBY⟩ := id hM
  have hBT := hI.B
  have hc1 := hI.c
  have htI := hI.t
  refine lv_aload_n hx hb dX7_roomOf_0 rfl (lv_at hl 0 rfl) ?_
  refine zb_iconst (n := 0) hx hb dX7_roomOf_1 (by decide) ?_
  refine zp_MO_code hx hb hts hinX7 hown hf66 hS hK hG dX7_roomOf_2 (fun H locs hG hS => ?_)
  refine lv_aload_n hx hb dX7_roomOf_5 rfl (lv_at hl 0 rfl) ?_
  refine lv_iload_n hx hb dX7_roomOf_6 rfl (lv_at hl 1 rfl) ?_
  refine zc_Vi (As := [.int p0]) (rest := []) hK hZ hb0 hG hS hx hb hml hown hts (c_X7_isPerson l p0 hBT) (cwV 1 hts gX7_roomOf_X7_isPerson rfl rfl rfl (by decide +kernel) ⟨Nat.le_of_ble_eq_true rfl, Nat.le_of_ble_eq_true rfl⟩) (za_recv (q := (RX7, TX7, 25)) hK hG 14 0 ⟨by omega, rfl⟩ rfl rfl rfl) rfl hl rfl (Nat.le_of_ble_eq_true rfl) dX7_roomOf_7 ⟨Nat.le_of_ble_eq_true rfl, Nat.le_of_ble_eq_true rfl⟩ (fun r_7 u_7 H locs hp hG hS => ?_)
  obtain ⟨rfl, rfl⟩ := hp
  refine zb_if_ne (x := if zs_ix p0 < T.1 0 0 0 then 1 else 0) (tgt := 19) hx hb (zs_cl _) dX7_roomOf_10 (by decide) (fun c_10 => ?_) (fun c_10 => ?_)
  · have q_10 : zs_ix p0 < T.1 0 0 0 := zs_c1 c_10
    have hl : lv_has ls 2 [(0, .ref (ad 14 0)), (1, .int (nI (zs_ix p0)))] := by rw [zs_ixe q_10 (by omega)]; exact hl
    refine lv_aload_n hx hb dX7_roomOf_19 rfl (lv_at hl 0 rfl) ?_
    refine zg_MO_roomOf hx hb hts hinX7 hown hf19 hK hG dX7_roomOf_20 ?_
    refine lv_iload_n hx hb dX7_roomOf_23 rfl (lv_at hl 1 rfl) ?_
    refine zld_MR (r := T.2 0 (zs_ix p0) 0) hx hb hK hG (by omega) rfl dX7_roomOf_24 ?_
    refine zb_iconstm hx hb dX7_roomOf_25 ?_
    refine zb_ecmp_ne (tgt := 37) hx hb (T.2 0 (zs_ix p0) 0) none (fun x h => by have := hI.ro q_10 h; omega) (by rintro _ ⟨⟩) dX7_roomOf_26 (by decide) (fun c_26 => ?_) (fun c_26 => ?_)
    · obtain ⟨y_26, hy_26⟩ := Option.ne_none_iff_exists'.mp c_26
      refine lv_aload_n hx hb dX7_roomOf_37 rfl (lv_at hl 0 rfl) ?_
      refine zg_MO_roomOf hx hb hts hinX7 hown hf19 hK hG dX7_roomOf_38 ?_
      refine lv_iload_n hx hb dX7_roomOf_41 rfl (lv_at hl 1 rfl) ?_
      refine zld_MR (r := some y_26) hx hb hK hG (by omega) hy_26 dX7_roomOf_42 ?_
      have hcode : zo_po T (zs_ix p0) 0 = 0 := by unfold zo_po; (first | rfl | ((repeat' split) <;> first | rfl | (exfalso; omega) | contradiction | (exfalso; simp_all; done)))
      exact zm_iret hx hb hr hlocks hG hS (by omega) (by omega) ⟨_, _, rfl, by rw [hcode]; exact zy_N hBY (by decide), Or.inl ⟨hcode, rfl, by rw [hy_26]; rfl⟩⟩ dX7_roomOf_43
    · skip
      refine lv_aload_n hx hb dX7_roomOf_29 rfl (lv_at hl 0 rfl) ?_
      refine zb_iconst (n := 2) hx hb dX7_roomOf_30 (by decide) ?_
      refine zc_Vi (As := [.int (nI 2)]) (rest := []) hK hZ hb0 hG hS hx hb hml hown hts (c_X7_fails l 2) (cwV 1 hts gX7_roomOf_X7_fails rfl rfl rfl (by decide +kernel) ⟨Nat.le_of_ble_eq_true rfl, Nat.le_of_ble_eq_true rfl⟩) (za_recv (q := (RX7, TX7, 25)) hK hG 14 0 ⟨by omega, rfl⟩ rfl rfl rfl) rfl hl rfl (Nat.le_of_ble_eq_true rfl) dX7_roomOf_31 ⟨Nat.le_of_ble_eq_true rfl, Nat.le_of_ble_eq_true rfl⟩ (fun r_31 u_31 H locs hp hG hS => ?_)
      obtain ⟨rfl, rfl⟩ := hp
      refine zb_goto (tgt := 43) hx hb dX7_roomOf_34 (by decide) ?_
      have hcode : zo_po T (zs_ix p0) 0 = 2 := by unfold zo_po; (first | rfl | ((repeat' split) <;> first | rfl | (exfalso; omega) | contradiction | (exfalso; simp_all; done)))
      exact zm_iret hx hb hr hlocks hG hS (by omega) (by omega) ⟨_, _, rfl, by rw [hcode]; exact zy_N (zs_N_B hBY (by decide)) (by decide), Or.inr ⟨by rw [hcode]; decide, rfl⟩⟩ dX7_roomOf_43
  · have q_10 : ¬ (zs_ix p0 < T.1 0 0 0) := zs_c0 c_10
    refine lv_aload_n hx hb dX7_roomOf_13 rfl (lv_at hl 0 rfl) ?_
    refine zb_iconst (n := 1) hx hb dX7_roomOf_14 (by decide) ?_
    refine zc_Vi (As := [.int (nI 1)]) (rest := []) hK hZ hb0 hG hS hx hb hml hown hts (c_X7_fails l 1) (cwV 1 hts gX7_roomOf_X7_fails rfl rfl rfl (by decide +kernel) ⟨Nat.le_of_ble_eq_true rfl, Nat.le_of_ble_eq_true rfl⟩) (za_recv (q := (RX7, TX7, 25)) hK hG 14 0 ⟨by omega, rfl⟩ rfl rfl rfl) rfl hl rfl (Nat.le_of_ble_eq_true rfl) dX7_roomOf_15 ⟨Nat.le_of_ble_eq_true rfl, Nat.le_of_ble_eq_true rfl⟩ (fun r_15 u_15 H locs hp hG hS => ?_)
    obtain ⟨rfl, rfl⟩ := hp
    have hcode : zo_po T (zs_ix p0) 0 = 1 := by unfold zo_po; (first | rfl | ((repeat' split) <;> first | rfl | (exfalso; omega) | contradiction | (exfalso; simp_all; done)))
    exact zm_iret hx hb hr hlocks hG hS (by omega) (by omega) ⟨_, _, rfl, by rw [hcode]; exact zy_N (zs_N_B hBY (by decide)) (by decide), Or.inr ⟨by rw [hcode]; decide, rfl⟩⟩ dX7_roomOf_18

set_option maxRecDepth 100000 in
set_option maxHeartbeats 4000000 in
theorem c_X7_inRoom (l : Launch) {E : za_E} {b : Nat} {ad : za_Ad} {S X T Y : za_S} {ow : Int64} {dw : UInt64} (p0 : Int32) (hM : zs_M T Y) : Met l yX7_inRoom wsX7_inRoom ({ frames := 2, cells := 0, slots := 0, locals := 43 } : Room) (za_Pc E b (ad, S, X, T, Y, ow, dw) [.ref (ad 14 0), .int p0]) (za_Qi E b (fun r u => ∃ T2 Y2, u = (ad, S, X, T2, Y2, ow, dw) ∧ zy Y2 (zo_r T (zs_ix p0)) ∧ ((zo_r T (zs_ix p0) = 0 ∧ T2 = T ∧ r = nI (T.1 5 (zs_ix p0) 0)) ∨ (zo_r T (zs_ix p0) ≠ 0 ∧ T2 = T)))) (0) (0) (za_A b) := by
  refine zm_met (ccm := cX7_inRoom) (maxL := 2) (ret := (some .int)) (ws' := _) (own := RX7) (lv := [(0, .ref (ad 14 0)), (1, .int p0)]) (by decide) rfl rfl rfl (by simp [lg_sl, Value.category]) ?_
  intro pg en s m below meth c hx hb hml hr hown hts hlocks hK hZ hb0 hG hS ls hl
  have hf29 := hts (.fieldLink RX7 29 "VideoBridgeModel" "sizes" "[I") (by decide +kernel)
  have hf66 := hts (.fieldLink RX7 66 "VideoBridgeModel" "code" "I") (by decide +kernel)
  have hinX7 : ∀ w ∈ u_ws RX7 TX7 25, w ∈ wsX7_inRoom := by decide +kernel
  skip
  obtain ⟨hI, hL, h6, hBY⟩ := id hM
  have hBT := hI.B
  have hc1 := hI.c
  have htI := hI.t
  refine lv_aload_n hx hb dX7_inRoom_0 rfl (lv_at hl 0 rfl) ?_
  refine zb_iconst (n := 0) hx hb dX7_inRoom_1 (by decide) ?_
  refine zp_MO_code hx hb hts hinX7 hown hf66 hS hK hG dX7_inRoom_2 (fun H locs hG hS => ?_)
  refine lv_aload_n hx hb dX7_inRoom_5 rfl (lv_at hl 0 rfl) ?_
  refine lv_iload_n hx hb dX7_inRoom_6 rfl (lv_at hl 1 rfl) ?_
  refine zc_Vi (As := [.int p0]) (rest := []) hK hZ hb0 hG hS hx hb hml hown hts (c_X7_isRoom l p0 hBT) (cwV 1 hts gX7_inRoom_X7_isRoom rfl rfl rfl (by decide +kernel) ⟨Nat.le_of_ble_eq_true rfl, Nat.le_of_ble_eq_true rfl⟩) (za_recv (q := (RX7, TX7, 25)) hK hG 14 0 ⟨by omega, rfl⟩ rfl rfl rfl) rfl hl rfl (Nat.le_of_ble_eq_true rfl) dX7_inRoom_7 ⟨Nat.le_of_ble_eq_true rfl, Nat.le_of_ble_eq_true rfl⟩ (fun r_7 u_7 H locs hp hG hS => ?_)
  obtain ⟨rfl, rfl⟩ := hp
  refine zb_if_eq (x := if zs_ix p0 < T.1 0 1 0 then 1 else 0) (tgt := 22) hx hb (zs_cl _) dX7_inRoom_10 (by decide) (fun c_10 => ?_) (fun c_10 => ?_)
  · have q_10 : ¬ (zs_ix p0 < T.1 0 1 0) := zs_c0 c_10
    refine lv_aload_n hx hb dX7_inRoom_22 rfl (lv_at hl 0 rfl) ?_
    refine zb_iconst (n := 1) hx hb dX7_inRoom_23 (by decide) ?_
    refine zc_Vi (As := [.int (nI 1)]) (rest := []) hK hZ hb0 hG hS hx hb hml hown hts (c_X7_fails l 1) (cwV 1 hts gX7_inRoom_X7_fails rfl rfl rfl (by decide +kernel) ⟨Nat.le_of_ble_eq_true rfl, Nat.le_of_ble_eq_true rfl⟩) (za_recv (q := (RX7, TX7, 25)) hK hG 14 0 ⟨by omega, rfl⟩ rfl rfl rfl) rfl hl rfl (Nat.le_of_ble_eq_true rfl) dX7_inRoom_24 ⟨Nat.le_of_ble_eq_true rfl, Nat.le_of_ble_eq_true rfl⟩ (fun r_24 u_24 H locs hp hG hS => ?_)
    obtain ⟨rfl, rfl⟩ := hp
    have hcode : zo_r T (zs_ix p0) = 1 := by unfold zo_r; (first | rfl | ((repeat' split) <;> first | rfl | (exfalso; omega) | contradiction | (exfalso; simp_all; done)))
    exact zm_iret hx hb hr hlocks hG hS (by omega) (by omega) ⟨_, _, rfl, by rw [hcode]; exact zy_N (zs_N_B hBY (by decide)) (by decide), Or.inr ⟨by rw [hcode]; decide, rfl⟩⟩ dX7_inRoom_27
  · have q_10 : zs_ix p0 < T.1 0 1 0 := zs_c1 c_10
    have hl : lv_has ls 2 [(0, .ref (ad 14 0)), (1, .int (nI (zs_ix p0)))] := by rw [zs_ixe q_10 (by omega)]; exact hl
    refine lv_aload_n hx hb dX7_inRoom_13 rfl (lv_at hl 0 rfl) ?_
    refine zg_MO_sizes hx hb hts hinX7 hown hf29 hK hG dX7_inRoom_14 ?_
    refine lv_iload_n hx hb dX7_inRoom_17 rfl (lv_at hl 1 rfl) ?_
    refine zld_MZ (n := T.1 5 (zs_ix p0) 0) hx hb hK hG (by omega) rfl dX7_inRoom_18 ?_
    refine zb_goto (tgt := 27) hx hb dX7_inRoom_19 (by decide) ?_
    have hcode : zo_r T (zs_ix p0) = 0 := by unfold zo_r; (first | rfl | ((repeat' split) <;> first | rfl | (exfalso; omega) | contradiction | (exfalso; simp_all; done)))
    exact zm_iret hx hb hr hlocks hG hS (by omega) (by omega) ⟨_, _, rfl, by rw [hcode]; exact zy_N hBY (by decide), Or.inl ⟨hcode, rfl, rfl⟩⟩ dX7_inRoom_27

set_option maxRecDepth 100000 in
set_option maxHeartbeats 4000000 in
theorem c_X7_challenge (l : Launch) {E : za_E} {b : Nat} {ad : za_Ad} {S X T Y : za_S} {ow : Int64} {dw : UInt64} (p0 : Int32) (hM : zs_M T Y) : Met l yX7_challenge wsX7_challenge ({ frames := 2, cells := 0, slots := 0, locals := 43 } : Room) (za_Pc E b (ad, S, X, T, Y, ow, dw) [.ref (ad 14 0), .int p0]) (za_Qi E b (fun r u => ∃ T2 Y2, u = (ad, S, X, T2, Y2, ow, dw) ∧ zy Y2 (zo_r T (zs_ix p0)) ∧ ((zo_r T (zs_ix p0) = 0 ∧ T2 = T ∧ r = nI (T.1 6 (zs_ix p0) 0)) ∨ (zo_r T (zs_ix p0) ≠ 0 ∧ T2 = T)))) (0) (0) (za_A b) := by
  refine zm_met (ccm := cX7_challenge) (maxL := 2) (ret := (some .int)) (ws' := _) (own := RX7) (lv := [(0, .ref (ad 14 0)), (1, .int p0)]) (by decide) rfl rfl rfl (by simp [lg_sl, Value.category]) ?_
  intro pg en s m below meth c hx hb hml hr hown hts hlocks hK hZ hb0 hG hS ls hl
  have hf41 := hts (.fieldLink RX7 41 "VideoBridgeModel" "challenges" "[I") (by decide +kernel)
  have hf66 := hts (.fieldLink RX7 66 "VideoBridgeModel" "code" "I") (by decide +kernel)
  have hinX7 : ∀ w ∈ u_ws RX7 TX7 25, w ∈ wsX7_challenge := by decide +kernel
  skip
  obtain ⟨hI, hL, h6, hBY⟩ := id hM
  have hBT := hI.B
  have hc1 := hI.c
  have htI := hI.t
  refine lv_aload_n hx hb dX7_challenge_0 rfl (lv_at hl 0 rfl) ?_
  refine zb_iconst (n := 0) hx hb dX7_challenge_1 (by decide) ?_
  refine zp_MO_code hx hb hts hinX7 hown hf66 hS hK hG dX7_challenge_2 (fun H locs hG hS => ?_)
  refine lv_aload_n hx hb dX7_challenge_5 rfl (lv_at hl 0 rfl) ?_
  refine lv_iload_n hx hb dX7_challenge_6 rfl (lv_at hl 1 rfl) ?_
  refine zc_Vi (As := [.int p0]) (rest := []) hK hZ hb0 hG hS hx hb hml hown hts (c_X7_isRoom l p0 hBT) (cwV 1 hts gX7_challenge_X7_isRoom rfl rfl rfl (by decide +kernel) ⟨Nat.le_of_ble_eq_true rfl, Nat.le_of_ble_eq_true rfl⟩) (za_recv (q := (RX7, TX7, 25)) hK hG 14 0 ⟨by omega, rfl⟩ rfl rfl rfl) rfl hl rfl (Nat.le_of_ble_eq_true rfl) dX7_challenge_7 ⟨Nat.le_of_ble_eq_true rfl, Nat.le_of_ble_eq_true rfl⟩ (fun r_7 u_7 H locs hp hG hS => ?_)
  obtain ⟨rfl, rfl⟩ := hp
  refine zb_if_eq (x := if zs_ix p0 < T.1 0 1 0 then 1 else 0) (tgt := 22) hx hb (zs_cl _) dX7_challenge_10 (by decide) (fun c_10 => ?_) (fun c_10 => ?_)
  · have q_10 : ¬ (zs_ix p0 < T.1 0 1 0) := zs_c0 c_10
    refine lv_aload_n hx hb dX7_challenge_22 rfl (lv_at hl 0 rfl) ?_
    refine zb_iconst (n := 1) hx hb dX7_challenge_23 (by decide) ?_
    refine zc_Vi (As := [.int (nI 1)]) (rest := []) hK hZ hb0 hG hS hx hb hml hown hts (c_X7_fails l 1) (cwV 1 hts gX7_challenge_X7_fails rfl rfl rfl (by decide +kernel) ⟨Nat.le_of_ble_eq_true rfl, Nat.le_of_ble_eq_true rfl⟩) (za_recv (q := (RX7, TX7, 25)) hK hG 14 0 ⟨by omega, rfl⟩ rfl rfl rfl) rfl hl rfl (Nat.le_of_ble_eq_true rfl) dX7_challenge_24 ⟨Nat.le_of_ble_eq_true rfl, Nat.le_of_ble_eq_true rfl⟩ (fun r_24 u_24 H locs hp hG hS => ?_)
    obtain ⟨rfl, rfl⟩ := hp
    have hcode : zo_r T (zs_ix p0) = 1 := by unfold zo_r; (first | rfl | ((repeat' split) <;> first | rfl | (exfalso; omega) | contradiction | (exfalso; simp_all; done)))
    exact zm_iret hx hb hr hlocks hG hS (by omega) (by omega) ⟨_, _, rfl, by rw [hcode]; exact zy_N (zs_N_B hBY (by decide)) (by decide), Or.inr ⟨by rw [hcode]; decide, rfl⟩⟩ dX7_challenge_27
  · have q_10 : zs_ix p0 < T.1 0 1 0 := zs_c1 c_10
    have hl : lv_has ls 2 [(0, .ref (ad 14 0)), (1, .int (nI (zs_ix p0)))] := by rw [zs_ixe q_10 (by omega)]; exact hl
    refine lv_aload_n hx hb dX7_challenge_13 rfl (lv_at hl 0 rfl) ?_
    refine zg_MO_challenges hx hb hts hinX7 hown hf41 hK hG dX7_challenge_14 ?_
    refine lv_iload_n hx hb dX7_challenge_17 rfl (lv_at hl 1 rfl) ?_
    refine zld_MH (n := T.1 6 (zs_ix p0) 0) hx hb hK hG (by omega) rfl dX7_challenge_18 ?_
    refine zb_goto (tgt := 27) hx hb dX7_challenge_19 (by decide) ?_
    have hcode : zo_r T (zs_ix p0) = 0 := by unfold zo_r; (first | rfl | ((repeat' split) <;> first | rfl | (exfalso; omega) | contradiction | (exfalso; simp_all; done)))
    exact zm_iret hx hb hr hlocks hG hS (by omega) (by omega) ⟨_, _, rfl, by rw [hcode]; exact zy_N hBY (by decide), Or.inl ⟨hcode, rfl, rfl⟩⟩ dX7_challenge_27

set_option maxRecDepth 100000 in
set_option maxHeartbeats 4000000 in
theorem c_X7_speaker (l : Launch) {E : za_E} {b : Nat} {ad : za_Ad} {S X T Y : za_S} {ow : Int64} {dw : UInt64} (p0 : Int32) (hM : zs_M T Y) : Met l yX7_speaker wsX7_speaker ({ frames := 2, cells := 0, slots := 0, locals := 43 } : Room) (za_Pc E b (ad, S, X, T, Y, ow, dw) [.ref (ad 14 0), .int p0]) (za_Qi E b (fun r u => ∃ T2 Y2, u = (ad, S, X, T2, Y2, ow, dw) ∧ zy Y2 (zo_rs T (zs_ix p0)) ∧ ((zo_rs T (zs_ix p0) = 0 ∧ T2 = T ∧ r = nI ((T.2 3 (zs_ix p0) 0).getD 0)) ∨ (zo_rs T (zs_ix p0) ≠ 0 ∧ T2 = T)))) (0) (0) (za_A b) := by
  refine zm_met (ccm := cX7_speaker) (maxL := 2) (ret := (some .int)) (ws' := _) (own := RX7) (lv := [(0, .ref (ad 14 0)), (1, .int p0)]) (by decide) rfl rfl rfl (by simp [lg_sl, Value.category]) ?_
  intro pg en s m below meth c hx hb hml hr hown hts hlocks hK hZ hb0 hG hS ls hl
  have hf35 := hts (.fieldLink RX7 35 "VideoBridgeModel" "speakers" "[I") (by decide +kernel)
  have hf66 := hts (.fieldLink RX7 66 "VideoBridgeModel" "code" "I") (by decide +kernel)
  have hinX7 : ∀ w ∈ u_ws RX7 TX7 25, w ∈ wsX7_speaker := by decide +kernel
  skip
  obtain ⟨hI, hL, h6, hBY⟩ := id hM
  have hBT := hI.B
  have hc1 := hI.c
  have htI := hI.t
  refine lv_aload_n hx hb dX7_speaker_0 rfl (lv_at hl 0 rfl) ?_
  refine zb_iconst (n := 0) hx hb dX7_speaker_1 (by decide) ?_
  refine zp_MO_code hx hb hts hinX7 hown hf66 hS hK hG dX7_speaker_2 (fun H locs hG hS => ?_)
  refine lv_aload_n hx hb dX7_speaker_5 rfl (lv_at hl 0 rfl) ?_
  refine lv_iload_n hx hb dX7_speaker_6 rfl (lv_at hl 1 rfl) ?_
  refine zc_Vi (As := [.int p0]) (rest := []) hK hZ hb0 hG hS hx hb hml hown hts (c_X7_isRoom l p0 hBT) (cwV 1 hts gX7_speaker_X7_isRoom rfl rfl rfl (by decide +kernel) ⟨Nat.le_of_ble_eq_true rfl, Nat.le_of_ble_eq_true rfl⟩) (za_recv (q := (RX7, TX7, 25)) hK hG 14 0 ⟨by omega, rfl⟩ rfl rfl rfl) rfl hl rfl (Nat.le_of_ble_eq_true rfl) dX7_speaker_7 ⟨Nat.le_of_ble_eq_true rfl, Nat.le_of_ble_eq_true rfl⟩ (fun r_7 u_7 H locs hp hG hS => ?_)
  obtain ⟨rfl, rfl⟩ := hp
  refine zb_if_ne (x := if zs_ix p0 < T.1 0 1 0 then 1 else 0) (tgt := 19) hx hb (zs_cl _) dX7_speaker_10 (by decide) (fun c_10 => ?_) (fun c_10 => ?_)
  · have q_10 : zs_ix p0 < T.1 0 1 0 := zs_c1 c_10
    have hl : lv_has ls 2 [(0, .ref (ad 14 0)), (1, .int (nI (zs_ix p0)))] := by rw [zs_ixe q_10 (by omega)]; exact hl
    refine lv_aload_n hx hb dX7_speaker_19 rfl (lv_at hl 0 rfl) ?_
    refine zg_MO_speakers hx hb hts hinX7 hown hf35 hK hG dX7_speaker_20 ?_
    refine lv_iload_n hx hb dX7_speaker_23 rfl (lv_at hl 1 rfl) ?_
    refine zld_MK (r := T.2 3 (zs_ix p0) 0) hx hb hK hG (by omega) rfl dX7_speaker_24 ?_
    refine zb_iconstm hx hb dX7_speaker_25 ?_
    refine zb_ecmp_ne (tgt := 37) hx hb (T.2 3 (zs_ix p0) 0) none (fun x h => by have := (hI.sp q_10 h).1; omega) (by rintro _ ⟨⟩) dX7_speaker_26 (by decide) (fun c_26 => ?_) (fun c_26 => ?_)
    · obtain ⟨y_26, hy_26⟩ := Option.ne_none_iff_exists'.mp c_26
      refine lv_aload_n hx hb dX7_speaker_37 rfl (lv_at hl 0 rfl) ?_
      refine zg_MO_speakers hx hb hts hinX7 hown hf35 hK hG dX7_speaker_38 ?_
      refine lv_iload_n hx hb dX7_speaker_41 rfl (lv_at hl 1 rfl) ?_
      refine zld_MK (r := some y_26) hx hb hK hG (by omega) hy_26 dX7_speaker_42 ?_
      have hcode : zo_rs T (zs_ix p0) = 0 := by unfold zo_rs; (first | rfl | ((repeat' split) <;> first | rfl | (exfalso; omega) | contradiction | (exfalso; simp_all; done)))
      exact zm_iret hx hb hr hlocks hG hS (by omega) (by omega) ⟨_, _, rfl, by rw [hcode]; exact zy_N hBY (by decide), Or.inl ⟨hcode, rfl, by rw [hy_26]; rfl⟩⟩ dX7_speaker_43
    · skip
      refine lv_aload_n hx hb dX7_speaker_29 rfl (lv_at hl 0 rfl) ?_
      refine zb_iconst (n := 2) hx hb dX7_speaker_30 (by decide) ?_
      refine zc_Vi (As := [.int (nI 2)]) (rest := []) hK hZ hb0 hG hS hx hb hml hown hts (c_X7_fails l 2) (cwV 1 hts gX7_speaker_X7_fails rfl rfl rfl (by decide +kernel) ⟨Nat.le_of_ble_eq_true rfl, Nat.le_of_ble_eq_true rfl⟩) (za_recv (q := (RX7, TX7, 25)) hK hG 14 0 ⟨by omega, rfl⟩ rfl rfl rfl) rfl hl rfl (Nat.le_of_ble_eq_true rfl) dX7_speaker_31 ⟨Nat.le_of_ble_eq_true rfl, Nat.le_of_ble_eq_true rfl⟩ (fun r_31 u_31 H locs hp hG hS => ?_)
      obtain ⟨rfl, rfl⟩ := hp
      refine zb_goto (tgt := 43) hx hb dX7_speaker_34 (by decide) ?_
      have hcode : zo_rs T (zs_ix p0) = 2 := by unfold zo_rs; (first | rfl | ((repeat' split) <;> first | rfl | (exfalso; omega) | contradiction | (exfalso; simp_all; done)))
      exact zm_iret hx hb hr hlocks hG hS (by omega) (by omega) ⟨_, _, rfl, by rw [hcode]; exact zy_N (zs_N_B hBY (by decide)) (by decide), Or.inr ⟨by rw [hcode]; decide, rfl⟩⟩ dX7_speaker_43
  · have q_10 : ¬ (zs_ix p0 < T.1 0 1 0) := zs_c0 c_10
    refine lv_aload_n hx hb dX7_speaker_13 rfl (lv_at hl 0 rfl) ?_
    refine zb_iconst (n := 1) hx hb dX7_speaker_14 (by decide) ?_
    refine zc_Vi (As := [.int (nI 1)]) (rest := []) hK hZ hb0 hG hS hx hb hml hown hts (c_X7_fails l 1) (cwV 1 hts gX7_speaker_X7_fails rfl rfl rfl (by decide +kernel) ⟨Nat.le_of_ble_eq_true rfl, Nat.le_of_ble_eq_true rfl⟩) (za_recv (q := (RX7, TX7, 25)) hK hG 14 0 ⟨by omega, rfl⟩ rfl rfl rfl) rfl hl rfl (Nat.le_of_ble_eq_true rfl) dX7_speaker_15 ⟨Nat.le_of_ble_eq_true rfl, Nat.le_of_ble_eq_true rfl⟩ (fun r_15 u_15 H locs hp hG hS => ?_)
    obtain ⟨rfl, rfl⟩ := hp
    have hcode : zo_rs T (zs_ix p0) = 1 := by unfold zo_rs; (first | rfl | ((repeat' split) <;> first | rfl | (exfalso; omega) | contradiction | (exfalso; simp_all; done)))
    exact zm_iret hx hb hr hlocks hG hS (by omega) (by omega) ⟨_, _, rfl, by rw [hcode]; exact zy_N (zs_N_B hBY (by decide)) (by decide), Or.inr ⟨by rw [hcode]; decide, rfl⟩⟩ dX7_speaker_18

set_option maxRecDepth 100000 in
set_option maxHeartbeats 4000000 in
theorem c_X7_personAt (l : Launch) {E : za_E} {b : Nat} {ad : za_Ad} {S X T Y : za_S} {ow : Int64} {dw : UInt64} (p0 p1 : Int32) (hM : zs_M T Y) : Met l yX7_personAt wsX7_personAt ({ frames := 2, cells := 0, slots := 0, locals := 43 } : Room) (za_Pc E b (ad, S, X, T, Y, ow, dw) [.ref (ad 14 0), .int p0, .int p1]) (za_Qi E b (fun r u => ∃ T2 Y2, u = (ad, S, X, T2, Y2, ow, dw) ∧ zy Y2 (zo_ra T (zs_ix p0) (zs_ix p1)) ∧ ((zo_ra T (zs_ix p0) (zs_ix p1) = 0 ∧ T2 = T ∧ r = nI ((zs_at T (zs_ix p0) (zs_ix p1)).getD 0)) ∨ (zo_ra T (zs_ix p0) (zs_ix p1) ≠ 0 ∧ T2 = T)))) (0) (0) (za_A b) := by
  refine zm_met (ccm := cX7_personAt) (maxL := 3) (ret := (some .int)) (ws' := _) (own := RX7) (lv := [(0, .ref (ad 14 0)), (1, .int p0), (2, .int p1)]) (by decide) rfl rfl rfl (by simp [lg_sl, Value.category]) ?_
  intro pg en s m below meth c hx hb hml hr hown hts hlocks hK hZ hb0 hG hS ls hl
  have hf29 := hts (.fieldLink RX7 29 "VideoBridgeModel" "sizes" "[I") (by decide +kernel)
  have hf32 := hts (.fieldLink RX7 32 "VideoBridgeModel" "who" "[I") (by decide +kernel)
  have hf66 := hts (.fieldLink RX7 66 "VideoBridgeModel" "code" "I") (by decide +kernel)
  have hinX7 : ∀ w ∈ u_ws RX7 TX7 25, w ∈ wsX7_personAt := by decide +kernel
  skip
  obtain ⟨hI, hL, h6, hBY⟩ := id hM
  have hBT := hI.B
  have hc1 := hI.c
  have htI := hI.t
  refine lv_aload_n hx hb dX7_personAt_0 rfl (lv_at hl 0 rfl) ?_
  refine zb_iconst (n := 0) hx hb dX7_personAt_1 (by decide) ?_
  refine zp_MO_code hx hb hts hinX7 hown hf66 hS hK hG dX7_personAt_2 (fun H locs hG hS => ?_)
  refine lv_aload_n hx hb dX7_personAt_5 rfl (lv_at hl 0 rfl) ?_
  refine lv_iload_n hx hb dX7_personAt_6 rfl (lv_at hl 1 rfl) ?_
  refine zc_Vi (As := [.int p0]) (rest := []) hK hZ hb0 hG hS hx hb hml hown hts (c_X7_isRoom l p0 hBT) (cwV 1 hts gX7_personAt_X7_isRoom rfl rfl rfl (by decide +kernel) ⟨Nat.le_of_ble_eq_true rfl, Nat.le_of_ble_eq_true rfl⟩) (za_recv (q := (RX7, TX7, 25)) hK hG 14 0 ⟨by omega, rfl⟩ rfl rfl rfl) rfl hl rfl (Nat.le_of_ble_eq_true rfl) dX7_personAt_7 ⟨Nat.le_of_ble_eq_true rfl, Nat.le_of_ble_eq_true rfl⟩ (fun r_7 u_7 H locs hp hG hS => ?_)
  obtain ⟨rfl, rfl⟩ := hp
  refine zb_if_ne (x := if zs_ix p0 < T.1 0 1 0 then 1 else 0) (tgt := 19) hx hb (zs_cl _) dX7_personAt_10 (by decide) (fun c_10 => ?_) (fun c_10 => ?_)
  · have q_10 : zs_ix p0 < T.1 0 1 0 := zs_c1 c_10
    have hsz := hI.sz (zs_ix p0)
    have eat : zs_at T (zs_ix p0) (zs_ix p1) = if zs_ix p1 < T.1 5 (zs_ix p0) 0 then T.2 2 (zs_ix p0) (zs_ix p1) else none := by
      unfold zs_at
      by_cases z : zs_ix p1 < T.1 5 (zs_ix p0) 0
      · rw [if_pos ⟨z, by omega⟩, if_pos z]
      · rw [if_neg (fun y => z y.1), if_neg z]
    have hl : lv_has ls 3 [(0, .ref (ad 14 0)), (1, .int (nI (zs_ix p0))), (2, .int p1)] := by rw [zs_ixe q_10 (by omega)]; exact hl
    refine lv_iload_n hx hb dX7_personAt_19 rfl (lv_at hl 2 rfl) ?_
    refine zb_iconst (n := 0) hx hb dX7_personAt_20 (by decide) ?_
    refine lv_aload_n hx hb dX7_personAt_21 rfl (lv_at hl 0 rfl) ?_
    refine zg_MO_sizes hx hb hts hinX7 hown hf29 hK hG dX7_personAt_22 ?_
    refine lv_iload_n hx hb dX7_personAt_25 rfl (lv_at hl 1 rfl) ?_
    refine zld_MZ (n := T.1 5 (zs_ix p0) 0) hx hb hK hG (by omega) rfl dX7_personAt_26 ?_
    refine zb_iconst (n := 1) hx hb dX7_personAt_27 (by decide) ?_
    refine lv_isub hx hb dX7_personAt_28 ?_
    refine zc_Si (As := [.int p1, .int (nI 0), .int (nI (T.1 5 (zs_ix p0) 0) - nI 1)]) (rest := []) hK hZ hb0 hG hS hx hb hml hown hts (c_X7_in l p1 (nI 0) (nI (T.1 5 (zs_ix p0) 0) - nI 1)) (cwS 3 hts gX7_personAt_X7_in rfl rfl rfl (by decide +kernel) ⟨Nat.le_of_ble_eq_true rfl, Nat.le_of_ble_eq_true rfl⟩) rfl hl rfl (Nat.le_of_ble_eq_true rfl) dX7_personAt_29 ⟨Nat.le_of_ble_eq_true rfl, Nat.le_of_ble_eq_true rfl⟩ (fun r_29 u_29 H locs hp hG hS => ?_)
    rw [zm_in_0 (hBT _ _ _)] at hp
    obtain ⟨rfl, rfl⟩ := hp
    refine zb_if_eq (x := if zs_ix p1 < T.1 5 (zs_ix p0) 0 then 1 else 0) (tgt := 49) hx hb (zs_cl _) dX7_personAt_32 (by decide) (fun c_32 => ?_) (fun c_32 => ?_)
    · have q_32 : ¬ (zs_ix p1 < T.1 5 (zs_ix p0) 0) := zs_c0 c_32
      rw [if_neg q_32] at eat
      refine lv_aload_n hx hb dX7_personAt_49 rfl (lv_at hl 0 rfl) ?_
      refine zb_iconst (n := 2) hx hb dX7_personAt_50 (by decide) ?_
      refine zc_Vi (As := [.int (nI 2)]) (rest := []) hK hZ hb0 hG hS hx hb hml hown hts (c_X7_fails l 2) (cwV 1 hts gX7_personAt_X7_fails rfl rfl rfl (by decide +kernel) ⟨Nat.le_of_ble_eq_true rfl, Nat.le_of_ble_eq_true rfl⟩) (za_recv (q := (RX7, TX7, 25)) hK hG 14 0 ⟨by omega, rfl⟩ rfl rfl rfl) rfl hl rfl (Nat.le_of_ble_eq_true rfl) dX7_personAt_51 ⟨Nat.le_of_ble_eq_true rfl, Nat.le_of_ble_eq_true rfl⟩ (fun r_51 u_51 H locs hp hG hS => ?_)
      obtain ⟨rfl, rfl⟩ := hp
      have hcode : zo_ra T (zs_ix p0) (zs_ix p1) = 2 := by unfold zo_ra; (first | rfl | ((repeat' split) <;> first | rfl | (exfalso; omega) | contradiction | (exfalso; simp_all; done)))
      exact zm_iret hx hb hr hlocks hG hS (by omega) (by omega) ⟨_, _, rfl, by rw [hcode]; exact zy_N (zs_N_B hBY (by decide)) (by decide), Or.inr ⟨by rw [hcode]; decide, rfl⟩⟩ dX7_personAt_54
    · have q_32 : zs_ix p1 < T.1 5 (zs_ix p0) 0 := zs_c1 c_32
      obtain ⟨x9, -, hx9, -⟩ := hI.oc q_32
      rw [if_pos q_32, hx9] at eat
      have hl : lv_has ls 3 [(0, .ref (ad 14 0)), (1, .int (nI (zs_ix p0))), (2, .int (nI (zs_ix p1)))] := by rw [zs_ixe q_32 (by omega)]; exact hl
      refine lv_aload_n hx hb dX7_personAt_35 rfl (lv_at hl 0 rfl) ?_
      refine zg_MO_who hx hb hts hinX7 hown hf32 hK hG dX7_personAt_36 ?_
      refine zb_bipush (n := 10) hx hb dX7_personAt_39 (by decide) ?_
      refine lv_iload_n hx hb dX7_personAt_41 rfl (lv_at hl 1 rfl) ?_
      refine zb_imul hx hb dX7_personAt_42 ?_
      refine lv_iload_n hx hb dX7_personAt_43 rfl (lv_at hl 2 rfl) ?_
      refine zb_iadd hx hb dX7_personAt_44 ?_
      refine zld_MW hx hb hK hG (by omega) (zs_wh rfl (by omega) hx9) dX7_personAt_45 ?_
      refine zb_goto (tgt := 54) hx hb dX7_personAt_46 (by decide) ?_
      have hcode : zo_ra T (zs_ix p0) (zs_ix p1) = 0 := by unfold zo_ra; (first | rfl | ((repeat' split) <;> first | rfl | (exfalso; omega) | contradiction | (exfalso; simp_all; done)))
      exact zm_iret hx hb hr hlocks hG hS (by omega) (by omega) ⟨_, _, rfl, by rw [hcode]; exact zy_N hBY (by decide), Or.inl ⟨hcode, rfl, by first | (rw [eat]; done) | (rw [eat]; rfl)⟩⟩ dX7_personAt_54
  · have q_10 : ¬ (zs_ix p0 < T.1 0 1 0) := zs_c0 c_10
    refine lv_aload_n hx hb dX7_personAt_13 rfl (lv_at hl 0 rfl) ?_
    refine zb_iconst (n := 1) hx hb dX7_personAt_14 (by decide) ?_
    refine zc_Vi (As := [.int (nI 1)]) (rest := []) hK hZ hb0 hG hS hx hb hml hown hts (c_X7_fails l 1) (cwV 1 hts gX7_personAt_X7_fails rfl rfl rfl (by decide +kernel) ⟨Nat.le_of_ble_eq_true rfl, Nat.le_of_ble_eq_true rfl⟩) (za_recv (q := (RX7, TX7, 25)) hK hG 14 0 ⟨by omega, rfl⟩ rfl rfl rfl) rfl hl rfl (Nat.le_of_ble_eq_true rfl) dX7_personAt_15 ⟨Nat.le_of_ble_eq_true rfl, Nat.le_of_ble_eq_true rfl⟩ (fun r_15 u_15 H locs hp hG hS => ?_)
    obtain ⟨rfl, rfl⟩ := hp
    have hcode : zo_ra T (zs_ix p0) (zs_ix p1) = 1 := by unfold zo_ra; (first | rfl | ((repeat' split) <;> first | rfl | (exfalso; omega) | contradiction | (exfalso; simp_all; done)))
    exact zm_iret hx hb hr hlocks hG hS (by omega) (by omega) ⟨_, _, rfl, by rw [hcode]; exact zy_N (zs_N_B hBY (by decide)) (by decide), Or.inr ⟨by rw [hcode]; decide, rfl⟩⟩ dX7_personAt_18

set_option maxRecDepth 100000 in
set_option maxHeartbeats 4000000 in
theorem c_X7_hears (l : Launch) {E : za_E} {b : Nat} {ad : za_Ad} {S X T Y : za_S} {ow : Int64} {dw : UInt64} (p0 p1 : Int32) (hM : zs_M T Y) : Met l yX7_hears wsX7_hears ({ frames := 2, cells := 0, slots := 0, locals := 43 } : Room) (za_Pc E b (ad, S, X, T, Y, ow, dw) [.ref (ad 14 0), .int p0, .int p1]) (za_Qi E b (fun r u => ∃ T2 Y2, u = (ad, S, X, T2, Y2, ow, dw) ∧ zy Y2 (zo_pp T (zs_ix p0) (zs_ix p1)) ∧ ((zo_pp T (zs_ix p0) (zs_ix p1) = 0 ∧ T2 = T ∧ r = nI (if zo_he T (zs_ix p0) (zs_ix p1) = true then 1 else 0)) ∨ (zo_pp T (zs_ix p0) (zs_ix p1) ≠ 0 ∧ T2 = T)))) (0) (0) (za_A b) := by
  refine zm_met (ccm := cX7_hears) (maxL := 3) (ret := (some .boolean)) (ws' := _) (own := RX7) (lv := [(0, .ref (ad 14 0)), (1, .int p0), (2, .int p1)]) (by decide) rfl rfl rfl (by simp [lg_sl, Value.category]) ?_
  intro pg en s m below meth c hx hb hml hr hown hts hlocks hK hZ hb0 hG hS ls hl
  have hf16 := hts (.fieldLink RX7 16 "VideoBridgeModel" "louds" "[I") (by decide +kernel)
  have hf19 := hts (.fieldLink RX7 19 "VideoBridgeModel" "roomOf" "[I") (by decide +kernel)
  have hf66 := hts (.fieldLink RX7 66 "VideoBridgeModel" "code" "I") (by decide +kernel)
  have hinX7 : ∀ w ∈ u_ws RX7 TX7 25, w ∈ wsX7_hears := by decide +kernel
  skip
  obtain ⟨hI, hL, h6, hBY⟩ := id hM
  have hBT := hI.B
  have hc1 := hI.c
  have htI := hI.t
  refine lv_aload_n hx hb dX7_hears_0 rfl (lv_at hl 0 rfl) ?_
  refine lv_aload_n hx hb dX7_hears_1 rfl (lv_at hl 0 rfl) ?_
  refine lv_iload_n hx hb dX7_hears_2 rfl (lv_at hl 1 rfl) ?_
  refine zc_Vi (As := [.int p0]) (rest := [.ref (ad 14 0)]) hK hZ hb0 hG hS hx hb hml hown hts (c_X7_isPerson l p0 hBT) (cwV 1 hts gX7_hears_X7_isPerson rfl rfl rfl (by decide +kernel) ⟨Nat.le_of_ble_eq_true rfl, Nat.le_of_ble_eq_true rfl⟩) (za_recv (q := (RX7, TX7, 25)) hK hG 14 0 ⟨by omega, rfl⟩ rfl rfl rfl) rfl hl rfl (Nat.le_of_ble_eq_true rfl) dX7_hears_3 ⟨Nat.le_of_ble_eq_true rfl, Nat.le_of_ble_eq_true rfl⟩ (fun r_3 u_3 H locs hp hG hS => ?_)
  obtain ⟨rfl, rfl⟩ := hp
  refine zb_if_eq (x := if zs_ix p0 < T.1 0 0 0 then 1 else 0) (tgt := 21) hx hb (zs_cl _) dX7_hears_6 (by decide) (fun c_6 => ?_) (fun c_6 => ?_)
  · have q_6 : ¬ (zs_ix p0 < T.1 0 0 0) := zs_c0 c_6
    refine zb_iconst (n := 1) hx hb dX7_hears_21 (by decide) ?_
    refine zp_MO_code hx hb hts hinX7 hown hf66 hS hK hG dX7_hears_22 (fun H locs hG hS => ?_)
    refine lv_aload_n hx hb dX7_hears_25 rfl (lv_at hl 0 rfl) ?_
    refine zg_MO_code hx hb hts hinX7 hown hf66 hK hG (n := 1) (by simp [za_N, za_P]) dX7_hears_26 ?_
    refine zb_if_ne (x := 1) (tgt := 77) hx hb (by decide) dX7_hears_29 (by decide) (fun _ => ?_) (fun c9 => absurd c9 (by decide))
    refine zb_iconst (n := 0) hx hb dX7_hears_77 (by decide) ?_
    have hcode : zo_pp T (zs_ix p0) (zs_ix p1) = 1 := by unfold zo_pp; (first | rfl | ((repeat' split) <;> first | rfl | (exfalso; omega) | contradiction | (exfalso; simp_all; done)))
    exact zm_zret hx hb hr rfl hlocks hG hS (by omega) (by omega) ⟨_, _, rfl, by rw [hcode]; exact zy_N hBY (by decide), Or.inr ⟨by rw [hcode]; decide, rfl⟩⟩ dX7_hears_78
  · have q_6 : zs_ix p0 < T.1 0 0 0 := zs_c1 c_6
    refine lv_aload_n hx hb dX7_hears_9 rfl (lv_at hl 0 rfl) ?_
    refine lv_iload_n hx hb dX7_hears_10 rfl (lv_at hl 2 rfl) ?_
    refine zc_Vi (As := [.int p1]) (rest := [.ref (ad 14 0)]) hK hZ hb0 hG hS hx hb hml hown hts (c_X7_isPerson l p1 hBT) (cwV 1 hts gX7_hears_X7_isPerson rfl rfl rfl (by decide +kernel) ⟨Nat.le_of_ble_eq_true rfl, Nat.le_of_ble_eq_true rfl⟩) (za_recv (q := (RX7, TX7, 25)) hK hG 14 0 ⟨by omega, rfl⟩ rfl rfl rfl) rfl hl rfl (Nat.le_of_ble_eq_true rfl) dX7_hears_11 ⟨Nat.le_of_ble_eq_true rfl, Nat.le_of_ble_eq_true rfl⟩ (fun r_11 u_11 H locs hp hG hS => ?_)
    obtain ⟨rfl, rfl⟩ := hp
    refine zb_if_eq (x := if zs_ix p1 < T.1 0 0 0 then 1 else 0) (tgt := 21) hx hb (zs_cl _) dX7_hears_14 (by decide) (fun c_14 => ?_) (fun c_14 => ?_)
    · have q_14 : ¬ (zs_ix p1 < T.1 0 0 0) := zs_c0 c_14
      refine zb_iconst (n := 1) hx hb dX7_hears_21 (by decide) ?_
      refine zp_MO_code hx hb hts hinX7 hown hf66 hS hK hG dX7_hears_22 (fun H locs hG hS => ?_)
      refine lv_aload_n hx hb dX7_hears_25 rfl (lv_at hl 0 rfl) ?_
      refine zg_MO_code hx hb hts hinX7 hown hf66 hK hG (n := 1) (by simp [za_N, za_P]) dX7_hears_26 ?_
      refine zb_if_ne (x := 1) (tgt := 77) hx hb (by decide) dX7_hears_29 (by decide) (fun _ => ?_) (fun c9 => absurd c9 (by decide))
      refine zb_iconst (n := 0) hx hb dX7_hears_77 (by decide) ?_
      have hcode : zo_pp T (zs_ix p0) (zs_ix p1) = 1 := by unfold zo_pp; (first | rfl | ((repeat' split) <;> first | rfl | (exfalso; omega) | contradiction | (exfalso; simp_all; done)))
      exact zm_zret hx hb hr rfl hlocks hG hS (by omega) (by omega) ⟨_, _, rfl, by rw [hcode]; exact zy_N hBY (by decide), Or.inr ⟨by rw [hcode]; decide, rfl⟩⟩ dX7_hears_78
    · have q_14 : zs_ix p1 < T.1 0 0 0 := zs_c1 c_14
      refine zb_iconst (n := 0) hx hb dX7_hears_17 (by decide) ?_
      refine zb_goto (tgt := 22) hx hb dX7_hears_18 (by decide) ?_
      refine zp_MO_code hx hb hts hinX7 hown hf66 hS hK hG dX7_hears_22 (fun H locs hG hS => ?_)
      refine lv_aload_n hx hb dX7_hears_25 rfl (lv_at hl 0 rfl) ?_
      refine zg_MO_code hx hb hts hinX7 hown hf66 hK hG (n := 0) (by simp [za_N, za_P]) dX7_hears_26 ?_
      refine zb_if_ne (x := 0) (tgt := 77) hx hb (by decide) dX7_hears_29 (by decide) (fun c9 => absurd c9 (by decide)) (fun _ => ?_)
      have hl : lv_has ls 3 [(0, .ref (ad 14 0)), (1, .int (nI (zs_ix p0))), (2, .int p1)] := by rw [zs_ixe q_6 (by omega)]; exact hl
      have hl : lv_has ls 3 [(0, .ref (ad 14 0)), (1, .int (nI (zs_ix p0))), (2, .int (nI (zs_ix p1)))] := by rw [zs_ixe q_14 (by omega)]; exact hl
      refine lv_iload_n hx hb dX7_hears_32 rfl (lv_at hl 1 rfl) ?_
      refine lv_iload_n hx hb dX7_hears_33 rfl (lv_at hl 2 rfl) ?_
      refine zb_icmp_eq (x := (zs_ix p0)) (y := (zs_ix p1)) (tgt := 77) hx hb (by omega) (by omega) dX7_hears_34 (by decide) (fun c_34 => ?_) (fun c_34 => ?_)
      · refine zb_iconst (n := 0) hx hb dX7_hears_77 (by decide) ?_
        have hcode : zo_pp T (zs_ix p0) (zs_ix p1) = 0 := by unfold zo_pp; (first | rfl | ((repeat' split) <;> first | rfl | (exfalso; omega) | contradiction | (exfalso; simp_all; done)))
        exact zm_zret hx hb hr rfl hlocks hG hS (by omega) (by omega) ⟨_, _, rfl, by rw [hcode]; exact zy_N hBY (by decide), Or.inl ⟨hcode, rfl, by first | (rw [zo_he_3 c_34]; rfl) | (rw [zo_he_2 (show zs_tg T (some (zs_ix p0)) (some (zs_ix p1)) = false from decide_eq_false (fun z => z.1 c_44))]; rfl) | (rw [zo_he_2 (show zs_tg T (some (zs_ix p0)) (some (zs_ix p1)) = false from decide_eq_false (fun z => c_59 (hy_44.symm.trans z.2)))]; rfl) | (rw [zo_he_1 (show T.1 3 (zs_ix p1) 0 < 10 by omega)]; rfl)⟩⟩ dX7_hears_78
      · refine lv_aload_n hx hb dX7_hears_37 rfl (lv_at hl 0 rfl) ?_
        refine zg_MO_roomOf hx hb hts hinX7 hown hf19 hK hG dX7_hears_38 ?_
        refine lv_iload_n hx hb dX7_hears_41 rfl (lv_at hl 1 rfl) ?_
        refine zld_MR (r := T.2 0 (zs_ix p0) 0) hx hb hK hG (by omega) rfl dX7_hears_42 ?_
        refine zb_iconstm hx hb dX7_hears_43 ?_
        refine zb_ecmp_eq (tgt := 77) hx hb (T.2 0 (zs_ix p0) 0) none (fun x h => by have := hI.ro q_6 h; omega) (by rintro _ ⟨⟩) dX7_hears_44 (by decide) (fun c_44 => ?_) (fun c_44 => ?_)
        · skip
          refine zb_iconst (n := 0) hx hb dX7_hears_77 (by decide) ?_
          have hcode : zo_pp T (zs_ix p0) (zs_ix p1) = 0 := by unfold zo_pp; (first | rfl | ((repeat' split) <;> first | rfl | (exfalso; omega) | contradiction | (exfalso; simp_all; done)))
          exact zm_zret hx hb hr rfl hlocks hG hS (by omega) (by omega) ⟨_, _, rfl, by rw [hcode]; exact zy_N hBY (by decide), Or.inl ⟨hcode, rfl, by first | (rw [zo_he_3 c_34]; rfl) | (rw [zo_he_2 (show zs_tg T (some (zs_ix p0)) (some (zs_ix p1)) = false from decide_eq_false (fun z => z.1 c_44))]; rfl) | (rw [zo_he_2 (show zs_tg T (some (zs_ix p0)) (some (zs_ix p1)) = false from decide_eq_false (fun z => c_59 (hy_44.symm.trans z.2)))]; rfl) | (rw [zo_he_1 (show T.1 3 (zs_ix p1) 0 < 10 by omega)]; rfl)⟩⟩ dX7_hears_78
        · obtain ⟨y_44, hy_44⟩ := Option.ne_none_iff_exists'.mp c_44
          have hr10 := hI.ro q_6 hy_44
          refine lv_aload_n hx hb dX7_hears_47 rfl (lv_at hl 0 rfl) ?_
          refine zg_MO_roomOf hx hb hts hinX7 hown hf19 hK hG dX7_hears_48 ?_
          refine lv_iload_n hx hb dX7_hears_51 rfl (lv_at hl 1 rfl) ?_
          refine zld_MR (r := some y_44) hx hb hK hG (by omega) hy_44 dX7_hears_52 ?_
          refine lv_aload_n hx hb dX7_hears_53 rfl (lv_at hl 0 rfl) ?_
          refine zg_MO_roomOf hx hb hts hinX7 hown hf19 hK hG dX7_hears_54 ?_
          refine lv_iload_n hx hb dX7_hears_57 rfl (lv_at hl 2 rfl) ?_
          refine zld_MR (r := T.2 0 (zs_ix p1) 0) hx hb hK hG (by omega) rfl dX7_hears_58 ?_
          refine zb_ecmp_ne (tgt := 77) hx hb (some y_44) (T.2 0 (zs_ix p1) 0) (by rintro _ ⟨⟩; omega) (fun x h => by have := hI.ro q_14 h; omega) dX7_hears_59 (by decide) (fun c_59 => ?_) (fun c_59 => ?_)
          · refine zb_iconst (n := 0) hx hb dX7_hears_77 (by decide) ?_
            have hcode : zo_pp T (zs_ix p0) (zs_ix p1) = 0 := by unfold zo_pp; (first | rfl | ((repeat' split) <;> first | rfl | (exfalso; omega) | contradiction | (exfalso; simp_all; done)))
            exact zm_zret hx hb hr rfl hlocks hG hS (by omega) (by omega) ⟨_, _, rfl, by rw [hcode]; exact zy_N hBY (by decide), Or.inl ⟨hcode, rfl, by first | (rw [zo_he_3 c_34]; rfl) | (rw [zo_he_2 (show zs_tg T (some (zs_ix p0)) (some (zs_ix p1)) = false from decide_eq_false (fun z => z.1 c_44))]; rfl) | (rw [zo_he_2 (show zs_tg T (some (zs_ix p0)) (some (zs_ix p1)) = false from decide_eq_false (fun z => c_59 (hy_44.symm.trans z.2)))]; rfl) | (rw [zo_he_1 (show T.1 3 (zs_ix p1) 0 < 10 by omega)]; rfl)⟩⟩ dX7_hears_78
          · refine lv_aload_n hx hb dX7_hears_62 rfl (lv_at hl 0 rfl) ?_
            refine zg_MO_louds hx hb hts hinX7 hown hf16 hK hG dX7_hears_63 ?_
            refine lv_iload_n hx hb dX7_hears_66 rfl (lv_at hl 2 rfl) ?_
            refine zld_ML (n := T.1 3 (zs_ix p1) 0) hx hb hK hG (by omega) rfl dX7_hears_67 ?_
            refine zb_bipush (n := 10) hx hb dX7_hears_68 (by decide) ?_
            refine zb_icmp_lt (x := T.1 3 (zs_ix p1) 0) (y := 10) (tgt := 77) hx hb (by have := hBT 3 (zs_ix p1) 0; omega) (by omega) dX7_hears_70 (by decide) (fun c_70 => ?_) (fun c_70 => ?_)
            · refine zb_iconst (n := 0) hx hb dX7_hears_77 (by decide) ?_
              have hcode : zo_pp T (zs_ix p0) (zs_ix p1) = 0 := by unfold zo_pp; (first | rfl | ((repeat' split) <;> first | rfl | (exfalso; omega) | contradiction | (exfalso; simp_all; done)))
              exact zm_zret hx hb hr rfl hlocks hG hS (by omega) (by omega) ⟨_, _, rfl, by rw [hcode]; exact zy_N hBY (by decide), Or.inl ⟨hcode, rfl, by first | (rw [zo_he_3 c_34]; rfl) | (rw [zo_he_2 (show zs_tg T (some (zs_ix p0)) (some (zs_ix p1)) = false from decide_eq_false (fun z => z.1 c_44))]; rfl) | (rw [zo_he_2 (show zs_tg T (some (zs_ix p0)) (some (zs_ix p1)) = false from decide_eq_false (fun z => c_59 (hy_44.symm.trans z.2)))]; rfl) | (rw [zo_he_1 (show T.1 3 (zs_ix p1) 0 < 10 by omega)]; rfl)⟩⟩ dX7_hears_78
            · refine zb_iconst (n := 1) hx hb dX7_hears_73 (by decide) ?_
              refine zb_goto (tgt := 78) hx hb dX7_hears_74 (by decide) ?_
              have hcode : zo_pp T (zs_ix p0) (zs_ix p1) = 0 := by unfold zo_pp; (first | rfl | ((repeat' split) <;> first | rfl | (exfalso; omega) | contradiction | (exfalso; simp_all; done)))
              exact zm_zret hx hb hr rfl hlocks hG hS (by omega) (by omega) ⟨_, _, rfl, by rw [hcode]; exact zy_N hBY (by decide), Or.inl ⟨hcode, rfl, by rw [zo_he_t (fun z => c_34 z) (show zs_tg T (some (zs_ix p0)) (some (zs_ix p1)) = true from decide_eq_true ⟨by rw [hy_44]; exact Option.some_ne_none _, hy_44.trans c_59⟩) (by omega)]; rfl⟩⟩ dX7_hears_78

set_option maxRecDepth 100000 in
set_option maxHeartbeats 4000000 in
theorem c_X7_talked (l : Launch) {E : za_E} {b : Nat} {ad : za_Ad} {S X T Y : za_S} {ow : Int64} {dw : UInt64} (p0 : Int32) (hM : zs_M T Y) : Met l yX7_talked wsX7_talked ({ frames := 2, cells := 0, slots := 0, locals := 43 } : Room) (za_Pc E b (ad, S, X, T, Y, ow, dw) [.ref (ad 14 0), .int p0]) (za_Ql E b (fun r u => ∃ T2 Y2, u = (ad, S, X, T2, Y2, ow, dw) ∧ zy Y2 (zo_p T (zs_ix p0)) ∧ ((zo_p T (zs_ix p0) = 0 ∧ T2 = T ∧ r = lN (T.1 4 (zs_ix p0) 0)) ∨ (zo_p T (zs_ix p0) ≠ 0 ∧ T2 = T)))) (0) (0) (za_A b) := by
  refine zm_met (ccm := cX7_talked) (maxL := 2) (ret := (some .long)) (ws' := _) (own := RX7) (lv := [(0, .ref (ad 14 0)), (1, .int p0)]) (by decide) rfl rfl rfl (by simp [lg_sl, Value.category]) ?_
  intro pg en s m below meth c hx hb hml hr hown hts hlocks hK hZ hb0 hG hS ls hl
  have hf25 := hts (.fieldLink RX7 25 "VideoBridgeModel" "talks" "[J") (by decide +kernel)
  have hf66 := hts (.fieldLink RX7 66 "VideoBridgeModel" "code" "I") (by decide +kernel)
  have hinX7 : ∀ w ∈ u_ws RX7 TX7 25, w ∈ wsX7_talked := by decide +kernel
  skip
  obtain ⟨hI, hL, h6, hBY⟩ := id hM
  have hBT := hI.B
  have hc1 := hI.c
  have htI := hI.t
  refine lv_aload_n hx hb dX7_talked_0 rfl (lv_at hl 0 rfl) ?_
  refine lv_aload_n hx hb dX7_talked_1 rfl (lv_at hl 0 rfl) ?_
  refine lv_iload_n hx hb dX7_talked_2 rfl (lv_at hl 1 rfl) ?_
  refine zc_Vi (As := [.int p0]) (rest := [.ref (ad 14 0)]) hK hZ hb0 hG hS hx hb hml hown hts (c_X7_isPerson l p0 hBT) (cwV 1 hts gX7_talked_X7_isPerson rfl rfl rfl (by decide +kernel) ⟨Nat.le_of_ble_eq_true rfl, Nat.le_of_ble_eq_true rfl⟩) (za_recv (q := (RX7, TX7, 25)) hK hG 14 0 ⟨by omega, rfl⟩ rfl rfl rfl) rfl hl rfl (Nat.le_of_ble_eq_true rfl) dX7_talked_3 ⟨Nat.le_of_ble_eq_true rfl, Nat.le_of_ble_eq_true rfl⟩ (fun r_3 u_3 H locs hp hG hS => ?_)
  obtain ⟨rfl, rfl⟩ := hp
  refine zb_if_eq (x := if zs_ix p0 < T.1 0 0 0 then 1 else 0) (tgt := 13) hx hb (zs_cl _) dX7_talked_6 (by decide) (fun c_6 => ?_) (fun c_6 => ?_)
  · have q_6 : ¬ (zs_ix p0 < T.1 0 0 0) := zs_c0 c_6
    refine zb_iconst (n := 1) hx hb dX7_talked_13 (by decide) ?_
    refine zp_MO_code hx hb hts hinX7 hown hf66 hS hK hG dX7_talked_14 (fun H locs hG hS => ?_)
    refine lv_aload_n hx hb dX7_talked_17 rfl (lv_at hl 0 rfl) ?_
    refine zg_MO_code hx hb hts hinX7 hown hf66 hK hG (n := 1) (by simp [za_N, za_P]) dX7_talked_18 ?_
    refine zb_if_le (x := 1) (tgt := 28) hx hb (by decide) dX7_talked_21 (by decide) (fun c9 => absurd c9 (by decide)) (fun _ => ?_)
    refine lv_lconst (v := lN 0) hx hb dX7_talked_24 (by decide) ?_
    refine zb_goto (tgt := 34) hx hb dX7_talked_25 (by decide) ?_
    have hcode : zo_p T (zs_ix p0) = 1 := by unfold zo_p; (first | rfl | ((repeat' split) <;> first | rfl | (exfalso; omega) | contradiction | (exfalso; simp_all; done)))
    exact zm_lret hx hb hr hlocks hG hS (by omega) (by omega) ⟨_, _, rfl, by rw [hcode]; exact zy_N hBY (by decide), Or.inr ⟨by rw [hcode]; decide, rfl⟩⟩ dX7_talked_34
  · have q_6 : zs_ix p0 < T.1 0 0 0 := zs_c1 c_6
    refine zb_iconst (n := 0) hx hb dX7_talked_9 (by decide) ?_
    refine zb_goto (tgt := 14) hx hb dX7_talked_10 (by decide) ?_
    refine zp_MO_code hx hb hts hinX7 hown hf66 hS hK hG dX7_talked_14 (fun H locs hG hS => ?_)
    refine lv_aload_n hx hb dX7_talked_17 rfl (lv_at hl 0 rfl) ?_
    refine zg_MO_code hx hb hts hinX7 hown hf66 hK hG (n := 0) (by simp [za_N, za_P]) dX7_talked_18 ?_
    refine zb_if_le (x := 0) (tgt := 28) hx hb (by decide) dX7_talked_21 (by decide) (fun _ => ?_) (fun c9 => absurd c9 (by decide))
    have hl : lv_has ls 2 [(0, .ref (ad 14 0)), (1, .int (nI (zs_ix p0)))] := by rw [zs_ixe q_6 (by omega)]; exact hl
    refine lv_aload_n hx hb dX7_talked_28 rfl (lv_at hl 0 rfl) ?_
    refine zg_MO_talks hx hb hts hinX7 hown hf25 hK hG dX7_talked_29 ?_
    refine lv_iload_n hx hb dX7_talked_32 rfl (lv_at hl 1 rfl) ?_
    refine zld_MT (n := T.1 4 (zs_ix p0) 0) hx hb hK hG (by omega) rfl dX7_talked_33 ?_
    have hcode : zo_p T (zs_ix p0) = 0 := by unfold zo_p; (first | rfl | ((repeat' split) <;> first | rfl | (exfalso; omega) | contradiction | (exfalso; simp_all; done)))
    exact zm_lret hx hb hr hlocks hG hS (by omega) (by omega) ⟨_, _, rfl, by rw [hcode]; exact zy_N hBY (by decide), Or.inl ⟨hcode, rfl, rfl⟩⟩ dX7_talked_34

set_option maxRecDepth 100000 in
set_option maxHeartbeats 4000000 in
theorem c_X7_turnAt (l : Launch) {E : za_E} {b : Nat} {ad : za_Ad} {S X T Y : za_S} {ow : Int64} {dw : UInt64} (p0 : Int32) (hM : zs_M T Y) : Met l yX7_turnAt wsX7_turnAt ({ frames := 1, cells := 0, slots := 0, locals := 22 } : Room) (za_Pc E b (ad, S, X, T, Y, ow, dw) [.ref (ad 14 0), .int p0]) (za_Qi E b (fun r u => ∃ T2 Y2, u = (ad, S, X, T2, Y2, ow, dw) ∧ zy Y2 (zo_t T (zs_ix p0)) ∧ ((zo_t T (zs_ix p0) = 0 ∧ T2 = T ∧ r = za_enc (T.2 5 8 (zs_ix p0))) ∨ (zo_t T (zs_ix p0) ≠ 0 ∧ T2 = T)))) (0) (0) (za_A b) := by
  refine zm_met (ccm := cX7_turnAt) (maxL := 2) (ret := (some .int)) (ws' := _) (own := RX7) (lv := [(0, .ref (ad 14 0)), (1, .int p0)]) (by decide) rfl rfl rfl (by simp [lg_sl, Value.category]) ?_
  intro pg en s m below meth c hx hb hml hr hown hts hlocks hK hZ hb0 hG hS ls hl
  have hf109 := hts (.fieldLink RX7 109 "VideoBridgeModel" "turns" "I") (by decide +kernel)
  have hf44 := hts (.fieldLink RX7 44 "VideoBridgeModel" "turnAt" "[I") (by decide +kernel)
  have hf66 := hts (.fieldLink RX7 66 "VideoBridgeModel" "code" "I") (by decide +kernel)
  have hinX7 : ∀ w ∈ u_ws RX7 TX7 25, w ∈ wsX7_turnAt := by decide +kernel
  skip
  obtain ⟨hI, hL, h6, hBY⟩ := id hM
  have hBT := hI.B
  have hc1 := hI.c
  have htI := hI.t
  refine lv_aload_n hx hb dX7_turnAt_0 rfl (lv_at hl 0 rfl) ?_
  refine zb_iconst (n := 0) hx hb dX7_turnAt_1 (by decide) ?_
  refine zp_MO_code hx hb hts hinX7 hown hf66 hS hK hG dX7_turnAt_2 (fun H locs hG hS => ?_)
  refine lv_iload_n hx hb dX7_turnAt_5 rfl (lv_at hl 1 rfl) ?_
  refine zb_iconst (n := 0) hx hb dX7_turnAt_6 (by decide) ?_
  refine lv_aload_n hx hb dX7_turnAt_7 rfl (lv_at hl 0 rfl) ?_
  refine zg_MO_turns hx hb hts hinX7 hown hf109 hK hG (n := T.1 7 8 0) rfl dX7_turnAt_8 ?_
  refine zb_iconst (n := 1) hx hb dX7_turnAt_11 (by decide) ?_
  refine lv_isub hx hb dX7_turnAt_12 ?_
  refine zc_Si (As := [.int p0, .int (nI 0), .int (nI (T.1 7 8 0) - nI 1)]) (rest := []) hK hZ hb0 hG hS hx hb hml hown hts (c_X7_in l p0 (nI 0) (nI (T.1 7 8 0) - nI 1)) (cwS 3 hts gX7_turnAt_X7_in rfl rfl rfl (by decide +kernel) ⟨Nat.le_of_ble_eq_true rfl, Nat.le_of_ble_eq_true rfl⟩) rfl hl rfl (Nat.le_of_ble_eq_true rfl) dX7_turnAt_13 ⟨Nat.le_of_ble_eq_true rfl, Nat.le_of_ble_eq_true rfl⟩ (fun r_13 u_13 H locs hp hG hS => ?_)
  rw [zm_in_0 (hBT _ _ _)] at hp
  obtain ⟨rfl, rfl⟩ := hp
  refine zb_if_eq (x := if zs_ix p0 < T.1 7 8 0 then 1 else 0) (tgt := 28) hx hb (zs_cl _) dX7_turnAt_16 (by decide) (fun c_16 => ?_) (fun c_16 => ?_)
  · have q_16 : ¬ (zs_ix p0 < T.1 7 8 0) := zs_c0 c_16
    refine lv_aload_n hx hb dX7_turnAt_28 rfl (lv_at hl 0 rfl) ?_
    refine zb_iconst (n := 1) hx hb dX7_turnAt_29 (by decide) ?_
    refine zc_Vi (As := [.int (nI 1)]) (rest := []) hK hZ hb0 hG hS hx hb hml hown hts (c_X7_fails l 1) (cwV 1 hts gX7_turnAt_X7_fails rfl rfl rfl (by decide +kernel) ⟨Nat.le_of_ble_eq_true rfl, Nat.le_of_ble_eq_true rfl⟩) (za_recv (q := (RX7, TX7, 25)) hK hG 14 0 ⟨by omega, rfl⟩ rfl rfl rfl) rfl hl rfl (Nat.le_of_ble_eq_true rfl) dX7_turnAt_30 ⟨Nat.le_of_ble_eq_true rfl, Nat.le_of_ble_eq_true rfl⟩ (fun r_30 u_30 H locs hp hG hS => ?_)
    obtain ⟨rfl, rfl⟩ := hp
    have hcode : zo_t T (zs_ix p0) = 1 := by unfold zo_t; (first | rfl | ((repeat' split) <;> first | rfl | (exfalso; omega) | contradiction | (exfalso; simp_all; done)))
    exact zm_iret hx hb hr hlocks hG hS (by omega) (by omega) ⟨_, _, rfl, by rw [hcode]; exact zy_N (zs_N_B hBY (by decide)) (by decide), Or.inr ⟨by rw [hcode]; decide, rfl⟩⟩ dX7_turnAt_33
  · have q_16 : zs_ix p0 < T.1 7 8 0 := zs_c1 c_16
    have hl : lv_has ls 2 [(0, .ref (ad 14 0)), (1, .int (nI (zs_ix p0)))] := by rw [zs_ixe q_16 (by omega)]; exact hl
    refine lv_aload_n hx hb dX7_turnAt_19 rfl (lv_at hl 0 rfl) ?_
    refine zg_MO_turnAt hx hb hts hinX7 hown hf44 hK hG dX7_turnAt_20 ?_
    refine lv_iload_n hx hb dX7_turnAt_23 rfl (lv_at hl 1 rfl) ?_
    refine zld_MA (r := T.2 5 8 (zs_ix p0)) hx hb hK hG (by omega) rfl dX7_turnAt_24 ?_
    refine zb_goto (tgt := 33) hx hb dX7_turnAt_25 (by decide) ?_
    have hcode : zo_t T (zs_ix p0) = 0 := by unfold zo_t; (first | rfl | ((repeat' split) <;> first | rfl | (exfalso; omega) | contradiction | (exfalso; simp_all; done)))
    exact zm_iret hx hb hr hlocks hG hS (by omega) (by omega) ⟨_, _, rfl, by rw [hcode]; exact zy_N hBY (by decide), Or.inl ⟨hcode, rfl, rfl⟩⟩ dX7_turnAt_33

set_option maxRecDepth 100000 in
set_option maxHeartbeats 4000000 in
theorem c_X7_pin (l : Launch) {E : za_E} {b : Nat} {ad : za_Ad} {S X T Y : za_S} {ow : Int64} {dw : UInt64} (p0 p1 : Int32) (hM : zs_M T Y) : Met l yX7_pin wsX7_pin ({ frames := 2, cells := 0, slots := 0, locals := 43 } : Room) (za_Pc E b (ad, S, X, T, Y, ow, dw) [.ref (ad 14 0), .int p0, .int p1]) (za_Qi E b (fun r u => ∃ T2 Y2, u = (ad, S, X, T2, Y2, ow, dw) ∧ zy Y2 (zo_pin T (zs_ix p0) (zs_ix p1)) ∧ ((zo_pin T (zs_ix p0) (zs_ix p1) = 0 ∧ T2 = za_P T 1 (zs_ix p0) 0 (some (zs_ix p1)) ∧ r = za_enc (T.2 1 (zs_ix p0) 0)) ∨ (zo_pin T (zs_ix p0) (zs_ix p1) ≠ 0 ∧ T2 = T)))) (0) (0) (za_A b) := by
  refine zm_met (ccm := cX7_pin) (maxL := 4) (ret := (some .int)) (ws' := _) (own := RX7) (lv := [(0, .ref (ad 14 0)), (1, .int p0), (2, .int p1)]) (by decide) rfl rfl rfl (by simp [lg_sl, Value.category]) ?_
  intro pg en s m below meth c hx hb hml hr hown hts hlocks hK hZ hb0 hG hS ls hl
  have hf19 := hts (.fieldLink RX7 19 "VideoBridgeModel" "roomOf" "[I") (by decide +kernel)
  have hf22 := hts (.fieldLink RX7 22 "VideoBridgeModel" "pins" "[I") (by decide +kernel)
  have hf66 := hts (.fieldLink RX7 66 "VideoBridgeModel" "code" "I") (by decide +kernel)
  have hinX7 : ∀ w ∈ u_ws RX7 TX7 25, w ∈ wsX7_pin := by decide +kernel
  skip
  obtain ⟨hI, hL, h6, hBY⟩ := id hM
  have hBT := hI.B
  have hc1 := hI.c
  have htI := hI.t
  refine lv_aload_n hx hb dX7_pin_0 rfl (lv_at hl 0 rfl) ?_
  refine zb_iconst (n := 0) hx hb dX7_pin_1 (by decide) ?_
  refine zp_MO_code hx hb hts hinX7 hown hf66 hS hK hG dX7_pin_2 (fun H locs hG hS => ?_)
  refine lv_aload_n hx hb dX7_pin_5 rfl (lv_at hl 0 rfl) ?_
  refine lv_iload_n hx hb dX7_pin_6 rfl (lv_at hl 1 rfl) ?_
  refine zc_Vi (As := [.int p0]) (rest := []) hK hZ hb0 hG hS hx hb hml hown hts (c_X7_isPerson l p0 hBT) (cwV 1 hts gX7_pin_X7_isPerson rfl rfl rfl (by decide +kernel) ⟨Nat.le_of_ble_eq_true rfl, Nat.le_of_ble_eq_true rfl⟩) (za_recv (q := (RX7, TX7, 25)) hK hG 14 0 ⟨by omega, rfl⟩ rfl rfl rfl) rfl hl rfl (Nat.le_of_ble_eq_true rfl) dX7_pin_7 ⟨Nat.le_of_ble_eq_true rfl, Nat.le_of_ble_eq_true rfl⟩ (fun r_7 u_7 H locs hp hG hS => ?_)
  obtain ⟨rfl, rfl⟩ := hp
  refine zb_if_eq (x := if zs_ix p0 < T.1 0 0 0 then 1 else 0) (tgt := 21) hx hb (zs_cl _) dX7_pin_10 (by decide) (fun c_10 => ?_) (fun c_10 => ?_)
  · have q_10 : ¬ (zs_ix p0 < T.1 0 0 0) := zs_c0 c_10
    refine lv_aload_n hx hb dX7_pin_21 rfl (lv_at hl 0 rfl) ?_
    refine zb_iconst (n := 1) hx hb dX7_pin_22 (by decide) ?_
    refine zc_Vi (As := [.int (nI 1)]) (rest := []) hK hZ hb0 hG hS hx hb hml hown hts (c_X7_fails l 1) (cwV 1 hts gX7_pin_X7_fails rfl rfl rfl (by decide +kernel) ⟨Nat.le_of_ble_eq_true rfl, Nat.le_of_ble_eq_true rfl⟩) (za_recv (q := (RX7, TX7, 25)) hK hG 14 0 ⟨by omega, rfl⟩ rfl rfl rfl) rfl hl rfl (Nat.le_of_ble_eq_true rfl) dX7_pin_23 ⟨Nat.le_of_ble_eq_true rfl, Nat.le_of_ble_eq_true rfl⟩ (fun r_23 u_23 H locs hp hG hS => ?_)
    obtain ⟨rfl, rfl⟩ := hp
    have hcode : zo_pin T (zs_ix p0) (zs_ix p1) = 1 := by unfold zo_pin; (first | rfl | ((repeat' split) <;> first | rfl | (exfalso; omega) | contradiction | (exfalso; simp_all; done)))
    exact zm_iret hx hb hr hlocks hG hS (by omega) (by omega) ⟨_, _, rfl, by rw [hcode]; exact zy_N (zs_N_B hBY (by decide)) (by decide), Or.inr ⟨by rw [hcode]; decide, rfl⟩⟩ dX7_pin_26
  · have q_10 : zs_ix p0 < T.1 0 0 0 := zs_c1 c_10
    refine lv_aload_n hx hb dX7_pin_13 rfl (lv_at hl 0 rfl) ?_
    refine lv_iload_n hx hb dX7_pin_14 rfl (lv_at hl 2 rfl) ?_
    refine zc_Vi (As := [.int p1]) (rest := []) hK hZ hb0 hG hS hx hb hml hown hts (c_X7_isPerson l p1 hBT) (cwV 1 hts gX7_pin_X7_isPerson rfl rfl rfl (by decide +kernel) ⟨Nat.le_of_ble_eq_true rfl, Nat.le_of_ble_eq_true rfl⟩) (za_recv (q := (RX7, TX7, 25)) hK hG 14 0 ⟨by omega, rfl⟩ rfl rfl rfl) rfl hl rfl (Nat.le_of_ble_eq_true rfl) dX7_pin_15 ⟨Nat.le_of_ble_eq_true rfl, Nat.le_of_ble_eq_true rfl⟩ (fun r_15 u_15 H locs hp hG hS => ?_)
    obtain ⟨rfl, rfl⟩ := hp
    refine zb_if_ne (x := if zs_ix p1 < T.1 0 0 0 then 1 else 0) (tgt := 27) hx hb (zs_cl _) dX7_pin_18 (by decide) (fun c_18 => ?_) (fun c_18 => ?_)
    · have q_18 : zs_ix p1 < T.1 0 0 0 := zs_c1 c_18
      have hl : lv_has ls 4 [(0, .ref (ad 14 0)), (1, .int (nI (zs_ix p0))), (2, .int p1)] := by rw [zs_ixe q_10 (by omega)]; exact hl
      have hl : lv_has ls 4 [(0, .ref (ad 14 0)), (1, .int (nI (zs_ix p0))), (2, .int (nI (zs_ix p1)))] := by rw [zs_ixe q_18 (by omega)]; exact hl
      refine lv_iload_n hx hb dX7_pin_27 rfl (lv_at hl 1 rfl) ?_
      refine lv_iload_n hx hb dX7_pin_28 rfl (lv_at hl 2 rfl) ?_
      refine zb_icmp_ne (x := (zs_ix p0)) (y := (zs_ix p1)) (tgt := 38) hx hb (by omega) (by omega) dX7_pin_29 (by decide) (fun c_29 => ?_) (fun c_29 => ?_)
      · refine lv_aload_n hx hb dX7_pin_38 rfl (lv_at hl 0 rfl) ?_
        refine zg_MO_roomOf hx hb hts hinX7 hown hf19 hK hG dX7_pin_39 ?_
        refine lv_iload_n hx hb dX7_pin_42 rfl (lv_at hl 1 rfl) ?_
        refine zld_MR (r := T.2 0 (zs_ix p0) 0) hx hb hK hG (by omega) rfl dX7_pin_43 ?_
        refine zb_iconstm hx hb dX7_pin_44 ?_
        refine zb_ecmp_eq (tgt := 63) hx hb (T.2 0 (zs_ix p0) 0) none (fun x h => by have := hI.ro q_10 h; omega) (by rintro _ ⟨⟩) dX7_pin_45 (by decide) (fun c_45 => ?_) (fun c_45 => ?_)
        · skip
          have htg : zs_tg T (some (zs_ix p0)) (some (zs_ix p1)) = false := decide_eq_false (by first | (exact fun z => z.1 c_45) | (exact fun z => c_60 (hy_45.symm.trans z.2)))
          refine lv_aload_n hx hb dX7_pin_63 rfl (lv_at hl 0 rfl) ?_
          refine zb_iconst (n := 3) hx hb dX7_pin_64 (by decide) ?_
          refine zc_Vi (As := [.int (nI 3)]) (rest := []) hK hZ hb0 hG hS hx hb hml hown hts (c_X7_fails l 3) (cwV 1 hts gX7_pin_X7_fails rfl rfl rfl (by decide +kernel) ⟨Nat.le_of_ble_eq_true rfl, Nat.le_of_ble_eq_true rfl⟩) (za_recv (q := (RX7, TX7, 25)) hK hG 14 0 ⟨by omega, rfl⟩ rfl rfl rfl) rfl hl rfl (Nat.le_of_ble_eq_true rfl) dX7_pin_65 ⟨Nat.le_of_ble_eq_true rfl, Nat.le_of_ble_eq_true rfl⟩ (fun r_65 u_65 H locs hp hG hS => ?_)
          obtain ⟨rfl, rfl⟩ := hp
          have hcode : zo_pin T (zs_ix p0) (zs_ix p1) = 3 := by unfold zo_pin; (first | rfl | ((repeat' split) <;> first | rfl | (exfalso; omega) | contradiction | (exfalso; simp_all; done)))
          exact zm_iret hx hb hr hlocks hG hS (by omega) (by omega) ⟨_, _, rfl, by rw [hcode]; exact zy_N (zs_N_B hBY (by decide)) (by decide), Or.inr ⟨by rw [hcode]; decide, rfl⟩⟩ dX7_pin_68
        · obtain ⟨y_45, hy_45⟩ := Option.ne_none_iff_exists'.mp c_45
          have hr10 := hI.ro q_10 hy_45
          refine lv_aload_n hx hb dX7_pin_48 rfl (lv_at hl 0 rfl) ?_
          refine zg_MO_roomOf hx hb hts hinX7 hown hf19 hK hG dX7_pin_49 ?_
          refine lv_iload_n hx hb dX7_pin_52 rfl (lv_at hl 1 rfl) ?_
          refine zld_MR (r := some y_45) hx hb hK hG (by omega) hy_45 dX7_pin_53 ?_
          refine lv_aload_n hx hb dX7_pin_54 rfl (lv_at hl 0 rfl) ?_
          refine zg_MO_roomOf hx hb hts hinX7 hown hf19 hK hG dX7_pin_55 ?_
          refine lv_iload_n hx hb dX7_pin_58 rfl (lv_at hl 2 rfl) ?_
          refine zld_MR (r := T.2 0 (zs_ix p1) 0) hx hb hK hG (by omega) rfl dX7_pin_59 ?_
          refine zb_ecmp_eq (tgt := 69) hx hb (some y_45) (T.2 0 (zs_ix p1) 0) (by rintro _ ⟨⟩; omega) (fun x h => by have := hI.ro q_18 h; omega) dX7_pin_60 (by decide) (fun c_60 => ?_) (fun c_60 => ?_)
          · have htg : zs_tg T (some (zs_ix p0)) (some (zs_ix p1)) = true := decide_eq_true ⟨by rw [hy_45]; exact Option.some_ne_none _, hy_45.trans c_60⟩
            refine lv_aload_n hx hb dX7_pin_69 rfl (lv_at hl 0 rfl) ?_
            refine zg_MO_pins hx hb hts hinX7 hown hf22 hK hG dX7_pin_70 ?_
            refine lv_iload_n hx hb dX7_pin_73 rfl (lv_at hl 1 rfl) ?_
            refine zld_MP (r := T.2 1 (zs_ix p0) 0) hx hb hK hG (by omega) rfl dX7_pin_74 ?_
            refine lv_istore_n (lv' := [(3, .int (za_enc (T.2 1 (zs_ix p0) 0))), (0, .ref (ad 14 0)), (1, .int (nI (zs_ix p0))), (2, .int (nI (zs_ix p1)))]) hx hb dX7_pin_75 rfl hl (by decide) rfl (fun ls hl => ?_)
            refine lv_aload_n hx hb dX7_pin_76 rfl (lv_at hl 1 rfl) ?_
            refine zg_MO_pins hx hb hts hinX7 hown hf22 hK hG dX7_pin_77 ?_
            refine lv_iload_n hx hb dX7_pin_80 rfl (lv_at hl 2 rfl) ?_
            refine lv_iload_n hx hb dX7_pin_81 rfl (lv_at hl 3 rfl) ?_
            refine W.eq (g2 := F0 m 82 ls (.int (za_enc (some (zs_ix p1))) :: [.int (nI (zs_ix p0)), .ref (ad 19 0)])) rfl ?_
            refine zst_MP hx hb hK hG hS (by omega) dX7_pin_82 (fun H locs hG hS => ?_)
            refine lv_iload_n hx hb dX7_pin_83 rfl (lv_at hl 0 rfl) ?_
            have hcode : zo_pin T (zs_ix p0) (zs_ix p1) = 0 := by unfold zo_pin; (first | rfl | ((repeat' split) <;> first | rfl | (exfalso; omega) | contradiction | (exfalso; simp_all; done)))
            exact zm_iret hx hb hr hlocks hG hS (by omega) (by omega) ⟨_, _, rfl, by rw [hcode]; exact zy_N hBY (by decide), Or.inl ⟨hcode, rfl, rfl⟩⟩ dX7_pin_84
          · have htg : zs_tg T (some (zs_ix p0)) (some (zs_ix p1)) = false := decide_eq_false (by first | (exact fun z => z.1 c_45) | (exact fun z => c_60 (hy_45.symm.trans z.2)))
            refine lv_aload_n hx hb dX7_pin_63 rfl (lv_at hl 0 rfl) ?_
            refine zb_iconst (n := 3) hx hb dX7_pin_64 (by decide) ?_
            refine zc_Vi (As := [.int (nI 3)]) (rest := []) hK hZ hb0 hG hS hx hb hml hown hts (c_X7_fails l 3) (cwV 1 hts gX7_pin_X7_fails rfl rfl rfl (by decide +kernel) ⟨Nat.le_of_ble_eq_true rfl, Nat.le_of_ble_eq_true rfl⟩) (za_recv (q := (RX7, TX7, 25)) hK hG 14 0 ⟨by omega, rfl⟩ rfl rfl rfl) rfl hl rfl (Nat.le_of_ble_eq_true rfl) dX7_pin_65 ⟨Nat.le_of_ble_eq_true rfl, Nat.le_of_ble_eq_true rfl⟩ (fun r_65 u_65 H locs hp hG hS => ?_)
            obtain ⟨rfl, rfl⟩ := hp
            have hcode : zo_pin T (zs_ix p0) (zs_ix p1) = 3 := by unfold zo_pin; (first | rfl | ((repeat' split) <;> first | rfl | (exfalso; omega) | contradiction | (exfalso; simp_all; done)))
            exact zm_iret hx hb hr hlocks hG hS (by omega) (by omega) ⟨_, _, rfl, by rw [hcode]; exact zy_N (zs_N_B hBY (by decide)) (by decide), Or.inr ⟨by rw [hcode]; decide, rfl⟩⟩ dX7_pin_68
      · refine lv_aload_n hx hb dX7_pin_32 rfl (lv_at hl 0 rfl) ?_
        refine zb_iconst (n := 2) hx hb dX7_pin_33 (by decide) ?_
        refine zc_Vi (As := [.int (nI 2)]) (rest := []) hK hZ hb0 hG hS hx hb hml hown hts (c_X7_fails l 2) (cwV 1 hts gX7_pin_X7_fails rfl rfl rfl (by decide +kernel) ⟨Nat.le_of_ble_eq_true rfl, Nat.le_of_ble_eq_true rfl⟩) (za_recv (q := (RX7, TX7, 25)) hK hG 14 0 ⟨by omega, rfl⟩ rfl rfl rfl) rfl hl rfl (Nat.le_of_ble_eq_true rfl) dX7_pin_34 ⟨Nat.le_of_ble_eq_true rfl, Nat.le_of_ble_eq_true rfl⟩ (fun r_34 u_34 H locs hp hG hS => ?_)
        obtain ⟨rfl, rfl⟩ := hp
        have hcode : zo_pin T (zs_ix p0) (zs_ix p1) = 2 := by unfold zo_pin; (first | rfl | ((repeat' split) <;> first | rfl | (exfalso; omega) | contradiction | (exfalso; simp_all; done)))
        exact zm_iret hx hb hr hlocks hG hS (by omega) (by omega) ⟨_, _, rfl, by rw [hcode]; exact zy_N (zs_N_B hBY (by decide)) (by decide), Or.inr ⟨by rw [hcode]; decide, rfl⟩⟩ dX7_pin_37
    · have q_18 : ¬ (zs_ix p1 < T.1 0 0 0) := zs_c0 c_18
      refine lv_aload_n hx hb dX7_pin_21 rfl (lv_at hl 0 rfl) ?_
      refine zb_iconst (n := 1) hx hb dX7_pin_22 (by decide) ?_
      refine zc_Vi (As := [.int (nI 1)]) (rest := []) hK hZ hb0 hG hS hx hb hml hown hts (c_X7_fails l 1) (cwV 1 hts gX7_pin_X7_fails rfl rfl rfl (by decide +kernel) ⟨Nat.le_of_ble_eq_true rfl, Nat.le_of_ble_eq_true rfl⟩) (za_recv (q := (RX7, TX7, 25)) hK hG 14 0 ⟨by omega, rfl⟩ rfl rfl rfl) rfl hl rfl (Nat.le_of_ble_eq_true rfl) dX7_pin_23 ⟨Nat.le_of_ble_eq_true rfl, Nat.le_of_ble_eq_true rfl⟩ (fun r_23 u_23 H locs hp hG hS => ?_)
      obtain ⟨rfl, rfl⟩ := hp
      have hcode : zo_pin T (zs_ix p0) (zs_ix p1) = 1 := by unfold zo_pin; (first | rfl | ((repeat' split) <;> first | rfl | (exfalso; omega) | contradiction | (exfalso; simp_all; done)))
      exact zm_iret hx hb hr hlocks hG hS (by omega) (by omega) ⟨_, _, rfl, by rw [hcode]; exact zy_N (zs_N_B hBY (by decide)) (by decide), Or.inr ⟨by rw [hcode]; decide, rfl⟩⟩ dX7_pin_26

set_option maxRecDepth 100000 in
set_option maxHeartbeats 4000000 in
theorem c_X7_unpin (l : Launch) {E : za_E} {b : Nat} {ad : za_Ad} {S X T Y : za_S} {ow : Int64} {dw : UInt64} (p0 : Int32) (hM : zs_M T Y) : Met l yX7_unpin wsX7_unpin ({ frames := 2, cells := 0, slots := 0, locals := 43 } : Room) (za_Pc E b (ad, S, X, T, Y, ow, dw) [.ref (ad 14 0), .int p0]) (za_Qi E b (fun r u => ∃ T2 Y2, u = (ad, S, X, T2, Y2, ow, dw) ∧ zy Y2 (zo_po T (zs_ix p0) 1) ∧ ((zo_po T (zs_ix p0) 1 = 0 ∧ T2 = za_P T 1 (zs_ix p0) 0 none ∧ r = nI ((T.2 1 (zs_ix p0) 0).getD 0)) ∨ (zo_po T (zs_ix p0) 1 ≠ 0 ∧ T2 = T)))) (0) (0) (za_A b) := by
  refine zm_met (ccm := cX7_unpin) (maxL := 3) (ret := (some .int)) (ws' := _) (own := RX7) (lv := [(0, .ref (ad 14 0)), (1, .int p0)]) (by decide) rfl rfl rfl (by simp [lg_sl, Value.category]) ?_
  intro pg en s m below meth c hx hb hml hr hown hts hlocks hK hZ hb0 hG hS ls hl
  have hf22 := hts (.fieldLink RX7 22 "VideoBridgeModel" "pins" "[I") (by decide +kernel)
  have hf66 := hts (.fieldLink RX7 66 "VideoBridgeModel" "code" "I") (by decide +kernel)
  have hinX7 : ∀ w ∈ u_ws RX7 TX7 25, w ∈ wsX7_unpin := by decide +kernel
  skip
  obtain ⟨hI, hL, h6, hBY⟩ := id hM
  have hBT := hI.B
  have hc1 := hI.c
  have htI := hI.t
  refine lv_aload_n hx hb dX7_unpin_0 rfl (lv_at hl 0 rfl) ?_
  refine zb_iconst (n := 0) hx hb dX7_unpin_1 (by decide) ?_
  refine zp_MO_code hx hb hts hinX7 hown hf66 hS hK hG dX7_unpin_2 (fun H locs hG hS => ?_)
  refine lv_aload_n hx hb dX7_unpin_5 rfl (lv_at hl 0 rfl) ?_
  refine lv_iload_n hx hb dX7_unpin_6 rfl (lv_at hl 1 rfl) ?_
  refine zc_Vi (As := [.int p0]) (rest := []) hK hZ hb0 hG hS hx hb hml hown hts (c_X7_isPerson l p0 hBT) (cwV 1 hts gX7_unpin_X7_isPerson rfl rfl rfl (by decide +kernel) ⟨Nat.le_of_ble_eq_true rfl, Nat.le_of_ble_eq_true rfl⟩) (za_recv (q := (RX7, TX7, 25)) hK hG 14 0 ⟨by omega, rfl⟩ rfl rfl rfl) rfl hl rfl (Nat.le_of_ble_eq_true rfl) dX7_unpin_7 ⟨Nat.le_of_ble_eq_true rfl, Nat.le_of_ble_eq_true rfl⟩ (fun r_7 u_7 H locs hp hG hS => ?_)
  obtain ⟨rfl, rfl⟩ := hp
  refine zb_if_ne (x := if zs_ix p0 < T.1 0 0 0 then 1 else 0) (tgt := 19) hx hb (zs_cl _) dX7_unpin_10 (by decide) (fun c_10 => ?_) (fun c_10 => ?_)
  · have q_10 : zs_ix p0 < T.1 0 0 0 := zs_c1 c_10
    have hl : lv_has ls 3 [(0, .ref (ad 14 0)), (1, .int (nI (zs_ix p0)))] := by rw [zs_ixe q_10 (by omega)]; exact hl
    refine lv_aload_n hx hb dX7_unpin_19 rfl (lv_at hl 0 rfl) ?_
    refine zg_MO_pins hx hb hts hinX7 hown hf22 hK hG dX7_unpin_20 ?_
    refine lv_iload_n hx hb dX7_unpin_23 rfl (lv_at hl 1 rfl) ?_
    refine zld_MP (r := T.2 1 (zs_ix p0) 0) hx hb hK hG (by omega) rfl dX7_unpin_24 ?_
    refine zb_iconstm hx hb dX7_unpin_25 ?_
    refine zb_ecmp_ne (tgt := 35) hx hb (T.2 1 (zs_ix p0) 0) none (fun x h => by have := (hI.pi q_10 h).1; omega) (by rintro _ ⟨⟩) dX7_unpin_26 (by decide) (fun c_26 => ?_) (fun c_26 => ?_)
    · obtain ⟨y_26, hy_26⟩ := Option.ne_none_iff_exists'.mp c_26
      refine lv_aload_n hx hb dX7_unpin_35 rfl (lv_at hl 0 rfl) ?_
      refine zg_MO_pins hx hb hts hinX7 hown hf22 hK hG dX7_unpin_36 ?_
      refine lv_iload_n hx hb dX7_unpin_39 rfl (lv_at hl 1 rfl) ?_
      refine zld_MP (r := some y_26) hx hb hK hG (by omega) hy_26 dX7_unpin_40 ?_
      refine lv_istore_n (lv' := [(2, .int (nI y_26)), (0, .ref (ad 14 0)), (1, .int (nI (zs_ix p0)))]) hx hb dX7_unpin_41 rfl hl (by decide) rfl (fun ls hl => ?_)
      refine lv_aload_n hx hb dX7_unpin_42 rfl (lv_at hl 1 rfl) ?_
      refine zg_MO_pins hx hb hts hinX7 hown hf22 hK hG dX7_unpin_43 ?_
      refine lv_iload_n hx hb dX7_unpin_46 rfl (lv_at hl 2 rfl) ?_
      refine zb_iconstm hx hb dX7_unpin_47 ?_
      refine zst_MP hx hb hK hG hS (by omega) dX7_unpin_48 (fun H locs hG hS => ?_)
      refine lv_iload_n hx hb dX7_unpin_49 rfl (lv_at hl 0 rfl) ?_
      have hcode : zo_po T (zs_ix p0) 1 = 0 := by unfold zo_po; (first | rfl | ((repeat' split) <;> first | rfl | (exfalso; omega) | contradiction | (exfalso; simp_all; done)))
      exact zm_iret hx hb hr hlocks hG hS (by omega) (by omega) ⟨_, _, rfl, by rw [hcode]; exact zy_N hBY (by decide), Or.inl ⟨hcode, rfl, by rw [hy_26]; rfl⟩⟩ dX7_unpin_50
    · skip
      refine lv_aload_n hx hb dX7_unpin_29 rfl (lv_at hl 0 rfl) ?_
      refine zb_iconst (n := 2) hx hb dX7_unpin_30 (by decide) ?_
      refine zc_Vi (As := [.int (nI 2)]) (rest := []) hK hZ hb0 hG hS hx hb hml hown hts (c_X7_fails l 2) (cwV 1 hts gX7_unpin_X7_fails rfl rfl rfl (by decide +kernel) ⟨Nat.le_of_ble_eq_true rfl, Nat.le_of_ble_eq_true rfl⟩) (za_recv (q := (RX7, TX7, 25)) hK hG 14 0 ⟨by omega, rfl⟩ rfl rfl rfl) rfl hl rfl (Nat.le_of_ble_eq_true rfl) dX7_unpin_31 ⟨Nat.le_of_ble_eq_true rfl, Nat.le_of_ble_eq_true rfl⟩ (fun r_31 u_31 H locs hp hG hS => ?_)
      obtain ⟨rfl, rfl⟩ := hp
      have hcode : zo_po T (zs_ix p0) 1 = 2 := by unfold zo_po; (first | rfl | ((repeat' split) <;> first | rfl | (exfalso; omega) | contradiction | (exfalso; simp_all; done)))
      exact zm_iret hx hb hr hlocks hG hS (by omega) (by omega) ⟨_, _, rfl, by rw [hcode]; exact zy_N (zs_N_B hBY (by decide)) (by decide), Or.inr ⟨by rw [hcode]; decide, rfl⟩⟩ dX7_unpin_34
  · have q_10 : ¬ (zs_ix p0 < T.1 0 0 0) := zs_c0 c_10
    refine lv_aload_n hx hb dX7_unpin_13 rfl (lv_at hl 0 rfl) ?_
    refine zb_iconst (n := 1) hx hb dX7_unpin_14 (by decide) ?_
    refine zc_Vi (As := [.int (nI 1)]) (rest := []) hK hZ hb0 hG hS hx hb hml hown hts (c_X7_fails l 1) (cwV 1 hts gX7_unpin_X7_fails rfl rfl rfl (by decide +kernel) ⟨Nat.le_of_ble_eq_true rfl, Nat.le_of_ble_eq_true rfl⟩) (za_recv (q := (RX7, TX7, 25)) hK hG 14 0 ⟨by omega, rfl⟩ rfl rfl rfl) rfl hl rfl (Nat.le_of_ble_eq_true rfl) dX7_unpin_15 ⟨Nat.le_of_ble_eq_true rfl, Nat.le_of_ble_eq_true rfl⟩ (fun r_15 u_15 H locs hp hG hS => ?_)
    obtain ⟨rfl, rfl⟩ := hp
    have hcode : zo_po T (zs_ix p0) 1 = 1 := by unfold zo_po; (first | rfl | ((repeat' split) <;> first | rfl | (exfalso; omega) | contradiction | (exfalso; simp_all; done)))
    exact zm_iret hx hb hr hlocks hG hS (by omega) (by omega) ⟨_, _, rfl, by rw [hcode]; exact zy_N (zs_N_B hBY (by decide)) (by decide), Or.inr ⟨by rw [hcode]; decide, rfl⟩⟩ dX7_unpin_18

set_option maxRecDepth 100000 in
set_option maxHeartbeats 4000000 in
theorem c_X7_record (l : Launch) {E : za_E} {b : Nat} {ad : za_Ad} {S X T Y : za_S} {ow : Int64} {dw : UInt64} (p0 : Int32) (hM : zs_M T Y) : Met l yX7_record wsX7_record ({ frames := 2, cells := 0, slots := 0, locals := 43 } : Room) (za_Pc E b (ad, S, X, T, Y, ow, dw) [.ref (ad 14 0), .int p0]) (za_Qi E b (fun r u => ∃ T2 Y2, u = (ad, S, X, T2, Y2, ow, dw) ∧ zy Y2 (zo_rec T (zs_ix p0)) ∧ ((zo_rec T (zs_ix p0) = 0 ∧ T2 = zs_nk T (zs_ix p0) ∧ r = nI (T.1 0 2 0)) ∨ (zo_rec T (zs_ix p0) ≠ 0 ∧ T2 = T)))) (0) (0) (za_A b) := by
  refine zm_met (ccm := cX7_record) (maxL := 2) (ret := (some .int)) (ws' := _) (own := RX7) (lv := [(0, .ref (ad 14 0)), (1, .int p0)]) (by decide) rfl rfl rfl (by simp [lg_sl, Value.category]) ?_
  intro pg en s m below meth c hx hb hml hr hown hts hlocks hK hZ hb0 hG hS ls hl
  have hf47 := hts (.fieldLink RX7 47 "VideoBridgeModel" "follow" "[I") (by decide +kernel)
  have hf66 := hts (.fieldLink RX7 66 "VideoBridgeModel" "code" "I") (by decide +kernel)
  have hf80 := hts (.fieldLink RX7 80 "VideoBridgeModel" "recorders" "I") (by decide +kernel)
  have hinX7 : ∀ w ∈ u_ws RX7 TX7 25, w ∈ wsX7_record := by decide +kernel
  skip
  obtain ⟨hI, hL, h6, hBY⟩ := id hM
  have hBT := hI.B
  have hc1 := hI.c
  have htI := hI.t
  refine lv_aload_n hx hb dX7_record_0 rfl (lv_at hl 0 rfl) ?_
  refine zb_iconst (n := 0) hx hb dX7_record_1 (by decide) ?_
  refine zp_MO_code hx hb hts hinX7 hown hf66 hS hK hG dX7_record_2 (fun H locs hG hS => ?_)
  refine lv_aload_n hx hb dX7_record_5 rfl (lv_at hl 0 rfl) ?_
  refine lv_iload_n hx hb dX7_record_6 rfl (lv_at hl 1 rfl) ?_
  refine zc_Vi (As := [.int p0]) (rest := []) hK hZ hb0 hG hS hx hb hml hown hts (c_X7_isRoom l p0 hBT) (cwV 1 hts gX7_record_X7_isRoom rfl rfl rfl (by decide +kernel) ⟨Nat.le_of_ble_eq_true rfl, Nat.le_of_ble_eq_true rfl⟩) (za_recv (q := (RX7, TX7, 25)) hK hG 14 0 ⟨by omega, rfl⟩ rfl rfl rfl) rfl hl rfl (Nat.le_of_ble_eq_true rfl) dX7_record_7 ⟨Nat.le_of_ble_eq_true rfl, Nat.le_of_ble_eq_true rfl⟩ (fun r_7 u_7 H locs hp hG hS => ?_)
  obtain ⟨rfl, rfl⟩ := hp
  refine zb_if_ne (x := if zs_ix p0 < T.1 0 1 0 then 1 else 0) (tgt := 19) hx hb (zs_cl _) dX7_record_10 (by decide) (fun c_10 => ?_) (fun c_10 => ?_)
  · have q_10 : zs_ix p0 < T.1 0 1 0 := zs_c1 c_10
    have hl : lv_has ls 2 [(0, .ref (ad 14 0)), (1, .int (nI (zs_ix p0)))] := by rw [zs_ixe q_10 (by omega)]; exact hl
    refine lv_aload_n hx hb dX7_record_19 rfl (lv_at hl 0 rfl) ?_
    refine zg_MO_recorders hx hb hts hinX7 hown hf80 hK hG (n := T.1 0 2 0) rfl dX7_record_20 ?_
    refine zb_bipush (n := 8) hx hb dX7_record_23 (by decide) ?_
    refine zb_icmp_ne (x := T.1 0 2 0) (y := 8) (tgt := 34) hx hb (by have := hBT 0 2 0; omega) (by omega) dX7_record_25 (by decide) (fun c_25 => ?_) (fun c_25 => ?_)
    · have hk8 : T.1 0 2 0 < 8 := by omega
      refine lv_aload_n hx hb dX7_record_34 rfl (lv_at hl 0 rfl) ?_
      refine zg_MO_follow hx hb hts hinX7 hown hf47 hK hG dX7_record_35 ?_
      refine lv_aload_n hx hb dX7_record_38 rfl (lv_at hl 0 rfl) ?_
      refine zg_MO_recorders hx hb hts hinX7 hown hf80 hK hG (n := T.1 0 2 0) rfl dX7_record_39 ?_
      refine lv_iload_n hx hb dX7_record_42 rfl (lv_at hl 1 rfl) ?_
      refine zst_MF hx hb hK hG hS (by omega) dX7_record_43 (fun H locs hG hS => ?_)
      refine lv_aload_n hx hb dX7_record_44 rfl (lv_at hl 0 rfl) ?_
      refine lv_dup hx hb dX7_record_45 rfl ?_
      refine zg_MO_recorders hx hb hts hinX7 hown hf80 hK hG (n := T.1 0 2 0) rfl dX7_record_46 ?_
      refine zb_iconst (n := 1) hx hb dX7_record_49 (by decide) ?_
      refine zb_iadd hx hb dX7_record_50 ?_
      refine zp_MO_recorders hx hb hts hinX7 hown hf80 hS hK hG dX7_record_51 (fun H locs hG hS => ?_)
      refine lv_aload_n hx hb dX7_record_54 rfl (lv_at hl 0 rfl) ?_
      refine zg_MO_recorders hx hb hts hinX7 hown hf80 hK hG (n := T.1 0 2 0 + 1) (za_Ns _ _ _ _ _) dX7_record_55 ?_
      refine zb_iconst (n := 1) hx hb dX7_record_58 (by decide) ?_
      refine zb_isub hx hb (by omega) dX7_record_59 ?_
      have hcode : zo_rec T (zs_ix p0) = 0 := by unfold zo_rec; (first | rfl | ((repeat' split) <;> first | rfl | (exfalso; omega) | contradiction | (exfalso; simp_all; done)))
      exact zm_iret hx hb hr hlocks hG hS (by omega) (by omega) ⟨_, _, rfl, by rw [hcode]; exact zy_N hBY (by decide), Or.inl ⟨hcode, rfl, congrArg nI (Nat.add_sub_cancel _ _)⟩⟩ dX7_record_60
    · refine lv_aload_n hx hb dX7_record_28 rfl (lv_at hl 0 rfl) ?_
      refine zb_iconst (n := 2) hx hb dX7_record_29 (by decide) ?_
      refine zc_Vi (As := [.int (nI 2)]) (rest := []) hK hZ hb0 hG hS hx hb hml hown hts (c_X7_fails l 2) (cwV 1 hts gX7_record_X7_fails rfl rfl rfl (by decide +kernel) ⟨Nat.le_of_ble_eq_true rfl, Nat.le_of_ble_eq_true rfl⟩) (za_recv (q := (RX7, TX7, 25)) hK hG 14 0 ⟨by omega, rfl⟩ rfl rfl rfl) rfl hl rfl (Nat.le_of_ble_eq_true rfl) dX7_record_30 ⟨Nat.le_of_ble_eq_true rfl, Nat.le_of_ble_eq_true rfl⟩ (fun r_30 u_30 H locs hp hG hS => ?_)
      obtain ⟨rfl, rfl⟩ := hp
      have hcode : zo_rec T (zs_ix p0) = 2 := by unfold zo_rec; (first | rfl | ((repeat' split) <;> first | rfl | (exfalso; omega) | contradiction | (exfalso; simp_all; done)))
      exact zm_iret hx hb hr hlocks hG hS (by omega) (by omega) ⟨_, _, rfl, by rw [hcode]; exact zy_N (zs_N_B hBY (by decide)) (by decide), Or.inr ⟨by rw [hcode]; decide, rfl⟩⟩ dX7_record_33
  · have q_10 : ¬ (zs_ix p0 < T.1 0 1 0) := zs_c0 c_10
    refine lv_aload_n hx hb dX7_record_13 rfl (lv_at hl 0 rfl) ?_
    refine zb_iconst (n := 1) hx hb dX7_record_14 (by decide) ?_
    refine zc_Vi (As := [.int (nI 1)]) (rest := []) hK hZ hb0 hG hS hx hb hml hown hts (c_X7_fails l 1) (cwV 1 hts gX7_record_X7_fails rfl rfl rfl (by decide +kernel) ⟨Nat.le_of_ble_eq_true rfl, Nat.le_of_ble_eq_true rfl⟩) (za_recv (q := (RX7, TX7, 25)) hK hG 14 0 ⟨by omega, rfl⟩ rfl rfl rfl) rfl hl rfl (Nat.le_of_ble_eq_true rfl) dX7_record_15 ⟨Nat.le_of_ble_eq_true rfl, Nat.le_of_ble_eq_true rfl⟩ (fun r_15 u_15 H locs hp hG hS => ?_)
    obtain ⟨rfl, rfl⟩ := hp
    have hcode : zo_rec T (zs_ix p0) = 1 := by unfold zo_rec; (first | rfl | ((repeat' split) <;> first | rfl | (exfalso; omega) | contradiction | (exfalso; simp_all; done)))
    exact zm_iret hx hb hr hlocks hG hS (by omega) (by omega) ⟨_, _, rfl, by rw [hcode]; exact zy_N (zs_N_B hBY (by decide)) (by decide), Or.inr ⟨by rw [hcode]; decide, rfl⟩⟩ dX7_record_18

set_option maxRecDepth 100000 in
set_option maxHeartbeats 4000000 in
theorem c_X7_stop (l : Launch) {E : za_E} {b : Nat} {ad : za_Ad} {S X T Y : za_S} {ow : Int64} {dw : UInt64} (p0 : Int32) (hM : zs_M T Y) : Met l yX7_stop wsX7_stop ({ frames := 2, cells := 0, slots := 0, locals := 43 } : Room) (za_Pc E b (ad, S, X, T, Y, ow, dw) [.ref (ad 14 0), .int p0]) (za_Qi E b (fun r u => ∃ T2 Y2, u = (ad, S, X, T2, Y2, ow, dw) ∧ zy Y2 (zo_ks T (zs_ix p0)) ∧ ((zo_ks T (zs_ix p0) = 0 ∧ T2 = za_N T 8 (zs_ix p0) 0 1 ∧ r = nI (T.1 7 (zs_ix p0) 0)) ∨ (zo_ks T (zs_ix p0) ≠ 0 ∧ T2 = T)))) (0) (0) (za_A b) := by
  refine zm_met (ccm := cX7_stop) (maxL := 2) (ret := (some .int)) (ws' := _) (own := RX7) (lv := [(0, .ref (ad 14 0)), (1, .int p0)]) (by decide) rfl rfl rfl (by simp [lg_sl, Value.category]) ?_
  intro pg en s m below meth c hx hb hml hr hown hts hlocks hK hZ hb0 hG hS ls hl
  have hf50 := hts (.fieldLink RX7 50 "VideoBridgeModel" "stopped" "[Z") (by decide +kernel)
  have hf54 := hts (.fieldLink RX7 54 "VideoBridgeModel" "notes" "[I") (by decide +kernel)
  have hf66 := hts (.fieldLink RX7 66 "VideoBridgeModel" "code" "I") (by decide +kernel)
  have hinX7 : ∀ w ∈ u_ws RX7 TX7 25, w ∈ wsX7_stop := by decide +kernel
  skip
  obtain ⟨hI, hL, h6, hBY⟩ := id hM
  have hBT := hI.B
  have hc1 := hI.c
  have htI := hI.t
  refine lv_aload_n hx hb dX7_stop_0 rfl (lv_at hl 0 rfl) ?_
  refine zb_iconst (n := 0) hx hb dX7_stop_1 (by decide) ?_
  refine zp_MO_code hx hb hts hinX7 hown hf66 hS hK hG dX7_stop_2 (fun H locs hG hS => ?_)
  refine lv_aload_n hx hb dX7_stop_5 rfl (lv_at hl 0 rfl) ?_
  refine lv_iload_n hx hb dX7_stop_6 rfl (lv_at hl 1 rfl) ?_
  refine zc_Vi (As := [.int p0]) (rest := []) hK hZ hb0 hG hS hx hb hml hown hts (c_X7_isRecorder l p0 hBT) (cwV 1 hts gX7_stop_X7_isRecorder rfl rfl rfl (by decide +kernel) ⟨Nat.le_of_ble_eq_true rfl, Nat.le_of_ble_eq_true rfl⟩) (za_recv (q := (RX7, TX7, 25)) hK hG 14 0 ⟨by omega, rfl⟩ rfl rfl rfl) rfl hl rfl (Nat.le_of_ble_eq_true rfl) dX7_stop_7 ⟨Nat.le_of_ble_eq_true rfl, Nat.le_of_ble_eq_true rfl⟩ (fun r_7 u_7 H locs hp hG hS => ?_)
  obtain ⟨rfl, rfl⟩ := hp
  refine zb_if_ne (x := if zs_ix p0 < T.1 0 2 0 then 1 else 0) (tgt := 19) hx hb (zs_cl _) dX7_stop_10 (by decide) (fun c_10 => ?_) (fun c_10 => ?_)
  · have q_10 : zs_ix p0 < T.1 0 2 0 := zs_c1 c_10
    have hl : lv_has ls 2 [(0, .ref (ad 14 0)), (1, .int (nI (zs_ix p0)))] := by rw [zs_ixe q_10 (by omega)]; exact hl
    refine lv_aload_n hx hb dX7_stop_19 rfl (lv_at hl 0 rfl) ?_
    refine zg_MO_stopped hx hb hts hinX7 hown hf50 hK hG dX7_stop_20 ?_
    refine lv_iload_n hx hb dX7_stop_23 rfl (lv_at hl 1 rfl) ?_
    refine zld_MQ (n := T.1 8 (zs_ix p0) 0) hx hb hK hG (by omega) rfl dX7_stop_24 ?_
    refine zb_if_eq (x := T.1 8 (zs_ix p0) 0) (tgt := 34) hx hb (by have := hBT 8 (zs_ix p0) 0; omega) dX7_stop_25 (by decide) (fun c_25 => ?_) (fun c_25 => ?_)
    · refine lv_aload_n hx hb dX7_stop_34 rfl (lv_at hl 0 rfl) ?_
      refine zg_MO_stopped hx hb hts hinX7 hown hf50 hK hG dX7_stop_35 ?_
      refine lv_iload_n hx hb dX7_stop_38 rfl (lv_at hl 1 rfl) ?_
      refine zb_iconst (n := 1) hx hb dX7_stop_39 (by decide) ?_
      refine zst_MQ hx hb hK hG hS (by omega) (by omega) dX7_stop_40 (fun H locs hG hS => ?_)
      refine lv_aload_n hx hb dX7_stop_41 rfl (lv_at hl 0 rfl) ?_
      refine zg_MO_notes hx hb hts hinX7 hown hf54 hK hG dX7_stop_42 ?_
      refine lv_iload_n hx hb dX7_stop_45 rfl (lv_at hl 1 rfl) ?_
      refine zld_MN (n := T.1 7 (zs_ix p0) 0) hx hb hK hG (by omega) rfl dX7_stop_46 ?_
      have hcode : zo_ks T (zs_ix p0) = 0 := by unfold zo_ks; (first | rfl | ((repeat' split) <;> first | rfl | (exfalso; omega) | contradiction | (exfalso; simp_all; done)))
      exact zm_iret hx hb hr hlocks hG hS (by omega) (by omega) ⟨_, _, rfl, by rw [hcode]; exact zy_N hBY (by decide), Or.inl ⟨hcode, rfl, rfl⟩⟩ dX7_stop_47
    · refine lv_aload_n hx hb dX7_stop_28 rfl (lv_at hl 0 rfl) ?_
      refine zb_iconst (n := 2) hx hb dX7_stop_29 (by decide) ?_
      refine zc_Vi (As := [.int (nI 2)]) (rest := []) hK hZ hb0 hG hS hx hb hml hown hts (c_X7_fails l 2) (cwV 1 hts gX7_stop_X7_fails rfl rfl rfl (by decide +kernel) ⟨Nat.le_of_ble_eq_true rfl, Nat.le_of_ble_eq_true rfl⟩) (za_recv (q := (RX7, TX7, 25)) hK hG 14 0 ⟨by omega, rfl⟩ rfl rfl rfl) rfl hl rfl (Nat.le_of_ble_eq_true rfl) dX7_stop_30 ⟨Nat.le_of_ble_eq_true rfl, Nat.le_of_ble_eq_true rfl⟩ (fun r_30 u_30 H locs hp hG hS => ?_)
      obtain ⟨rfl, rfl⟩ := hp
      have hcode : zo_ks T (zs_ix p0) = 2 := by unfold zo_ks; (first | rfl | ((repeat' split) <;> first | rfl | (exfalso; omega) | contradiction | (exfalso; simp_all; done)))
      exact zm_iret hx hb hr hlocks hG hS (by omega) (by omega) ⟨_, _, rfl, by rw [hcode]; exact zy_N (zs_N_B hBY (by decide)) (by decide), Or.inr ⟨by rw [hcode]; decide, rfl⟩⟩ dX7_stop_33
  · have q_10 : ¬ (zs_ix p0 < T.1 0 2 0) := zs_c0 c_10
    refine lv_aload_n hx hb dX7_stop_13 rfl (lv_at hl 0 rfl) ?_
    refine zb_iconst (n := 1) hx hb dX7_stop_14 (by decide) ?_
    refine zc_Vi (As := [.int (nI 1)]) (rest := []) hK hZ hb0 hG hS hx hb hml hown hts (c_X7_fails l 1) (cwV 1 hts gX7_stop_X7_fails rfl rfl rfl (by decide +kernel) ⟨Nat.le_of_ble_eq_true rfl, Nat.le_of_ble_eq_true rfl⟩) (za_recv (q := (RX7, TX7, 25)) hK hG 14 0 ⟨by omega, rfl⟩ rfl rfl rfl) rfl hl rfl (Nat.le_of_ble_eq_true rfl) dX7_stop_15 ⟨Nat.le_of_ble_eq_true rfl, Nat.le_of_ble_eq_true rfl⟩ (fun r_15 u_15 H locs hp hG hS => ?_)
    obtain ⟨rfl, rfl⟩ := hp
    have hcode : zo_ks T (zs_ix p0) = 1 := by unfold zo_ks; (first | rfl | ((repeat' split) <;> first | rfl | (exfalso; omega) | contradiction | (exfalso; simp_all; done)))
    exact zm_iret hx hb hr hlocks hG hS (by omega) (by omega) ⟨_, _, rfl, by rw [hcode]; exact zy_N (zs_N_B hBY (by decide)) (by decide), Or.inr ⟨by rw [hcode]; decide, rfl⟩⟩ dX7_stop_18

set_option maxRecDepth 100000 in
set_option maxHeartbeats 4000000 in
theorem c_X7_follows (l : Launch) {E : za_E} {b : Nat} {ad : za_Ad} {S X T Y : za_S} {ow : Int64} {dw : UInt64} (p0 : Int32) (hM : zs_M T Y) : Met l yX7_follows wsX7_follows ({ frames := 2, cells := 0, slots := 0, locals := 43 } : Room) (za_Pc E b (ad, S, X, T, Y, ow, dw) [.ref (ad 14 0), .int p0]) (za_Qi E b (fun r u => ∃ T2 Y2, u = (ad, S, X, T2, Y2, ow, dw) ∧ zy Y2 (zo_ks T (zs_ix p0)) ∧ ((zo_ks T (zs_ix p0) = 0 ∧ T2 = T ∧ r = nI (T.1 9 (zs_ix p0) 0)) ∨ (zo_ks T (zs_ix p0) ≠ 0 ∧ T2 = T)))) (0) (0) (za_A b) := by
  refine zm_met (ccm := cX7_follows) (maxL := 2) (ret := (some .int)) (ws' := _) (own := RX7) (lv := [(0, .ref (ad 14 0)), (1, .int p0)]) (by decide) rfl rfl rfl (by simp [lg_sl, Value.category]) ?_
  intro pg en s m below meth c hx hb hml hr hown hts hlocks hK hZ hb0 hG hS ls hl
  have hf47 := hts (.fieldLink RX7 47 "VideoBridgeModel" "follow" "[I") (by decide +kernel)
  have hf50 := hts (.fieldLink RX7 50 "VideoBridgeModel" "stopped" "[Z") (by decide +kernel)
  have hf66 := hts (.fieldLink RX7 66 "VideoBridgeModel" "code" "I") (by decide +kernel)
  have hinX7 : ∀ w ∈ u_ws RX7 TX7 25, w ∈ wsX7_follows := by decide +kernel
  skip
  obtain ⟨hI, hL, h6, hBY⟩ := id hM
  have hBT := hI.B
  have hc1 := hI.c
  have htI := hI.t
  refine lv_aload_n hx hb dX7_follows_0 rfl (lv_at hl 0 rfl) ?_
  refine zb_iconst (n := 0) hx hb dX7_follows_1 (by decide) ?_
  refine zp_MO_code hx hb hts hinX7 hown hf66 hS hK hG dX7_follows_2 (fun H locs hG hS => ?_)
  refine lv_aload_n hx hb dX7_follows_5 rfl (lv_at hl 0 rfl) ?_
  refine lv_iload_n hx hb dX7_follows_6 rfl (lv_at hl 1 rfl) ?_
  refine zc_Vi (As := [.int p0]) (rest := []) hK hZ hb0 hG hS hx hb hml hown hts (c_X7_isRecorder l p0 hBT) (cwV 1 hts gX7_follows_X7_isRecorder rfl rfl rfl (by decide +kernel) ⟨Nat.le_of_ble_eq_true rfl, Nat.le_of_ble_eq_true rfl⟩) (za_recv (q := (RX7, TX7, 25)) hK hG 14 0 ⟨by omega, rfl⟩ rfl rfl rfl) rfl hl rfl (Nat.le_of_ble_eq_true rfl) dX7_follows_7 ⟨Nat.le_of_ble_eq_true rfl, Nat.le_of_ble_eq_true rfl⟩ (fun r_7 u_7 H locs hp hG hS => ?_)
  obtain ⟨rfl, rfl⟩ := hp
  refine zb_if_ne (x := if zs_ix p0 < T.1 0 2 0 then 1 else 0) (tgt := 19) hx hb (zs_cl _) dX7_follows_10 (by decide) (fun c_10 => ?_) (fun c_10 => ?_)
  · have q_10 : zs_ix p0 < T.1 0 2 0 := zs_c1 c_10
    have hl : lv_has ls 2 [(0, .ref (ad 14 0)), (1, .int (nI (zs_ix p0)))] := by rw [zs_ixe q_10 (by omega)]; exact hl
    refine lv_aload_n hx hb dX7_follows_19 rfl (lv_at hl 0 rfl) ?_
    refine zg_MO_stopped hx hb hts hinX7 hown hf50 hK hG dX7_follows_20 ?_
    refine lv_iload_n hx hb dX7_follows_23 rfl (lv_at hl 1 rfl) ?_
    refine zld_MQ (n := T.1 8 (zs_ix p0) 0) hx hb hK hG (by omega) rfl dX7_follows_24 ?_
    refine zb_if_eq (x := T.1 8 (zs_ix p0) 0) (tgt := 36) hx hb (by have := hBT 8 (zs_ix p0) 0; omega) dX7_follows_25 (by decide) (fun c_25 => ?_) (fun c_25 => ?_)
    · refine lv_aload_n hx hb dX7_follows_36 rfl (lv_at hl 0 rfl) ?_
      refine zg_MO_follow hx hb hts hinX7 hown hf47 hK hG dX7_follows_37 ?_
      refine lv_iload_n hx hb dX7_follows_40 rfl (lv_at hl 1 rfl) ?_
      refine zld_MF (n := T.1 9 (zs_ix p0) 0) hx hb hK hG (by omega) rfl dX7_follows_41 ?_
      have hcode : zo_ks T (zs_ix p0) = 0 := by unfold zo_ks; (first | rfl | ((repeat' split) <;> first | rfl | (exfalso; omega) | contradiction | (exfalso; simp_all; done)))
      exact zm_iret hx hb hr hlocks hG hS (by omega) (by omega) ⟨_, _, rfl, by rw [hcode]; exact zy_N hBY (by decide), Or.inl ⟨hcode, rfl, rfl⟩⟩ dX7_follows_42
    · refine lv_aload_n hx hb dX7_follows_28 rfl (lv_at hl 0 rfl) ?_
      refine zb_iconst (n := 2) hx hb dX7_follows_29 (by decide) ?_
      refine zc_Vi (As := [.int (nI 2)]) (rest := []) hK hZ hb0 hG hS hx hb hml hown hts (c_X7_fails l 2) (cwV 1 hts gX7_follows_X7_fails rfl rfl rfl (by decide +kernel) ⟨Nat.le_of_ble_eq_true rfl, Nat.le_of_ble_eq_true rfl⟩) (za_recv (q := (RX7, TX7, 25)) hK hG 14 0 ⟨by omega, rfl⟩ rfl rfl rfl) rfl hl rfl (Nat.le_of_ble_eq_true rfl) dX7_follows_30 ⟨Nat.le_of_ble_eq_true rfl, Nat.le_of_ble_eq_true rfl⟩ (fun r_30 u_30 H locs hp hG hS => ?_)
      obtain ⟨rfl, rfl⟩ := hp
      refine zb_goto (tgt := 42) hx hb dX7_follows_33 (by decide) ?_
      have hcode : zo_ks T (zs_ix p0) = 2 := by unfold zo_ks; (first | rfl | ((repeat' split) <;> first | rfl | (exfalso; omega) | contradiction | (exfalso; simp_all; done)))
      exact zm_iret hx hb hr hlocks hG hS (by omega) (by omega) ⟨_, _, rfl, by rw [hcode]; exact zy_N (zs_N_B hBY (by decide)) (by decide), Or.inr ⟨by rw [hcode]; decide, rfl⟩⟩ dX7_follows_42
  · have q_10 : ¬ (zs_ix p0 < T.1 0 2 0) := zs_c0 c_10
    refine lv_aload_n hx hb dX7_follows_13 rfl (lv_at hl 0 rfl) ?_
    refine zb_iconst (n := 1) hx hb dX7_follows_14 (by decide) ?_
    refine zc_Vi (As := [.int (nI 1)]) (rest := []) hK hZ hb0 hG hS hx hb hml hown hts (c_X7_fails l 1) (cwV 1 hts gX7_follows_X7_fails rfl rfl rfl (by decide +kernel) ⟨Nat.le_of_ble_eq_true rfl, Nat.le_of_ble_eq_true rfl⟩) (za_recv (q := (RX7, TX7, 25)) hK hG 14 0 ⟨by omega, rfl⟩ rfl rfl rfl) rfl hl rfl (Nat.le_of_ble_eq_true rfl) dX7_follows_15 ⟨Nat.le_of_ble_eq_true rfl, Nat.le_of_ble_eq_true rfl⟩ (fun r_15 u_15 H locs hp hG hS => ?_)
    obtain ⟨rfl, rfl⟩ := hp
    have hcode : zo_ks T (zs_ix p0) = 1 := by unfold zo_ks; (first | rfl | ((repeat' split) <;> first | rfl | (exfalso; omega) | contradiction | (exfalso; simp_all; done)))
    exact zm_iret hx hb hr hlocks hG hS (by omega) (by omega) ⟨_, _, rfl, by rw [hcode]; exact zy_N (zs_N_B hBY (by decide)) (by decide), Or.inr ⟨by rw [hcode]; decide, rfl⟩⟩ dX7_follows_18

set_option maxRecDepth 100000 in
set_option maxHeartbeats 4000000 in
theorem c_X7_stateOf (l : Launch) {E : za_E} {b : Nat} {ad : za_Ad} {S X T Y : za_S} {ow : Int64} {dw : UInt64} (p0 : Int32) (hM : zs_M T Y) : Met l yX7_stateOf wsX7_stateOf ({ frames := 2, cells := 0, slots := 0, locals := 43 } : Room) (za_Pc E b (ad, S, X, T, Y, ow, dw) [.ref (ad 14 0), .int p0]) (za_Qi E b (fun r u => ∃ T2 Y2, u = (ad, S, X, T2, Y2, ow, dw) ∧ zy Y2 (zo_k T (zs_ix p0)) ∧ ((zo_k T (zs_ix p0) = 0 ∧ T2 = T ∧ r = nI (if T.1 8 (zs_ix p0) 0 = 0 then 114 else 115)) ∨ (zo_k T (zs_ix p0) ≠ 0 ∧ T2 = T)))) (0) (0) (za_A b) := by
  refine zm_met (ccm := cX7_stateOf) (maxL := 2) (ret := (some .char)) (ws' := _) (own := RX7) (lv := [(0, .ref (ad 14 0)), (1, .int p0)]) (by decide) rfl rfl rfl (by simp [lg_sl, Value.category]) ?_
  intro pg en s m below meth c hx hb hml hr hown hts hlocks hK hZ hb0 hG hS ls hl
  have hf50 := hts (.fieldLink RX7 50 "VideoBridgeModel" "stopped" "[Z") (by decide +kernel)
  have hf66 := hts (.fieldLink RX7 66 "VideoBridgeModel" "code" "I") (by decide +kernel)
  have hinX7 : ∀ w ∈ u_ws RX7 TX7 25, w ∈ wsX7_stateOf := by decide +kernel
  skip
  obtain ⟨hI, hL, h6, hBY⟩ := id hM
  have hBT := hI.B
  have hc1 := hI.c
  have htI := hI.t
  refine lv_aload_n hx hb dX7_stateOf_0 rfl (lv_at hl 0 rfl) ?_
  refine lv_aload_n hx hb dX7_stateOf_1 rfl (lv_at hl 0 rfl) ?_
  refine lv_iload_n hx hb dX7_stateOf_2 rfl (lv_at hl 1 rfl) ?_
  refine zc_Vi (As := [.int p0]) (rest := [.ref (ad 14 0)]) hK hZ hb0 hG hS hx hb hml hown hts (c_X7_isRecorder l p0 hBT) (cwV 1 hts gX7_stateOf_X7_isRecorder rfl rfl rfl (by decide +kernel) ⟨Nat.le_of_ble_eq_true rfl, Nat.le_of_ble_eq_true rfl⟩) (za_recv (q := (RX7, TX7, 25)) hK hG 14 0 ⟨by omega, rfl⟩ rfl rfl rfl) rfl hl rfl (Nat.le_of_ble_eq_true rfl) dX7_stateOf_3 ⟨Nat.le_of_ble_eq_true rfl, Nat.le_of_ble_eq_true rfl⟩ (fun r_3 u_3 H locs hp hG hS => ?_)
  obtain ⟨rfl, rfl⟩ := hp
  refine zb_if_eq (x := if zs_ix p0 < T.1 0 2 0 then 1 else 0) (tgt := 13) hx hb (zs_cl _) dX7_stateOf_6 (by decide) (fun c_6 => ?_) (fun c_6 => ?_)
  · have q_6 : ¬ (zs_ix p0 < T.1 0 2 0) := zs_c0 c_6
    refine zb_iconst (n := 1) hx hb dX7_stateOf_13 (by decide) ?_
    refine zp_MO_code hx hb hts hinX7 hown hf66 hS hK hG dX7_stateOf_14 (fun H locs hG hS => ?_)
    refine lv_aload_n hx hb dX7_stateOf_17 rfl (lv_at hl 0 rfl) ?_
    refine zg_MO_code hx hb hts hinX7 hown hf66 hK hG (n := 1) (by simp [za_N, za_P]) dX7_stateOf_18 ?_
    refine zb_if_le (x := 1) (tgt := 28) hx hb (by decide) dX7_stateOf_21 (by decide) (fun c9 => absurd c9 (by decide)) (fun _ => ?_)
    refine zb_iconst (n := 0) hx hb dX7_stateOf_24 (by decide) ?_
    refine zb_goto (tgt := 44) hx hb dX7_stateOf_25 (by decide) ?_
    have hcode : zo_k T (zs_ix p0) = 1 := by unfold zo_k; (first | rfl | ((repeat' split) <;> first | rfl | (exfalso; omega) | contradiction | (exfalso; simp_all; done)))
    exact zm_zret hx hb hr (by decide) hlocks hG hS (by omega) (by omega) ⟨_, _, rfl, by rw [hcode]; exact zy_N hBY (by decide), Or.inr ⟨by rw [hcode]; decide, rfl⟩⟩ dX7_stateOf_44
  · have q_6 : zs_ix p0 < T.1 0 2 0 := zs_c1 c_6
    refine zb_iconst (n := 0) hx hb dX7_stateOf_9 (by decide) ?_
    refine zb_goto (tgt := 14) hx hb dX7_stateOf_10 (by decide) ?_
    refine zp_MO_code hx hb hts hinX7 hown hf66 hS hK hG dX7_stateOf_14 (fun H locs hG hS => ?_)
    refine lv_aload_n hx hb dX7_stateOf_17 rfl (lv_at hl 0 rfl) ?_
    refine zg_MO_code hx hb hts hinX7 hown hf66 hK hG (n := 0) (by simp [za_N, za_P]) dX7_stateOf_18 ?_
    refine zb_if_le (x := 0) (tgt := 28) hx hb (by decide) dX7_stateOf_21 (by decide) (fun _ => ?_) (fun c9 => absurd c9 (by decide))
    have hl : lv_has ls 2 [(0, .ref (ad 14 0)), (1, .int (nI (zs_ix p0)))] := by rw [zs_ixe q_6 (by omega)]; exact hl
    refine lv_aload_n hx hb dX7_stateOf_28 rfl (lv_at hl 0 rfl) ?_
    refine zg_MO_stopped hx hb hts hinX7 hown hf50 hK hG dX7_stateOf_29 ?_
    refine lv_iload_n hx hb dX7_stateOf_32 rfl (lv_at hl 1 rfl) ?_
    refine zld_MQ (n := T.1 8 (zs_ix p0) 0) hx hb hK hG (by omega) rfl dX7_stateOf_33 ?_
    refine zb_if_eq (x := T.1 8 (zs_ix p0) 0) (tgt := 42) hx hb (by have := hBT 8 (zs_ix p0) 0; omega) dX7_stateOf_34 (by decide) (fun c_34 => ?_) (fun c_34 => ?_)
    · refine zb_bipush (n := 114) hx hb dX7_stateOf_42 (by decide) ?_
      have hcode : zo_k T (zs_ix p0) = 0 := by unfold zo_k; (first | rfl | ((repeat' split) <;> first | rfl | (exfalso; omega) | contradiction | (exfalso; simp_all; done)))
      exact zm_zret hx hb hr (by decide) hlocks hG hS (by omega) (by omega) ⟨_, _, rfl, by rw [hcode]; exact zy_N hBY (by decide), Or.inl ⟨hcode, rfl, by first | rw [if_neg c_34] | rw [if_pos c_34]⟩⟩ dX7_stateOf_44
    · refine zb_bipush (n := 115) hx hb dX7_stateOf_37 (by decide) ?_
      refine zb_goto (tgt := 44) hx hb dX7_stateOf_39 (by decide) ?_
      have hcode : zo_k T (zs_ix p0) = 0 := by unfold zo_k; (first | rfl | ((repeat' split) <;> first | rfl | (exfalso; omega) | contradiction | (exfalso; simp_all; done)))
      exact zm_zret hx hb hr (by decide) hlocks hG hS (by omega) (by omega) ⟨_, _, rfl, by rw [hcode]; exact zy_N hBY (by decide), Or.inl ⟨hcode, rfl, by first | rw [if_neg c_34] | rw [if_pos c_34]⟩⟩ dX7_stateOf_44

set_option maxRecDepth 100000 in
set_option maxHeartbeats 4000000 in
theorem c_X7_noteAt (l : Launch) {E : za_E} {b : Nat} {ad : za_Ad} {S X T Y : za_S} {ow : Int64} {dw : UInt64} (p0 p1 : Int32) (hM : zs_M T Y) : Met l yX7_noteAt wsX7_noteAt ({ frames := 2, cells := 0, slots := 0, locals := 43 } : Room) (za_Pc E b (ad, S, X, T, Y, ow, dw) [.ref (ad 14 0), .int p0, .int p1]) (za_Qi E b (fun r u => ∃ T2 Y2, u = (ad, S, X, T2, Y2, ow, dw) ∧ zy Y2 (zo_kn T (zs_ix p0) (zs_ix p1)) ∧ ((zo_kn T (zs_ix p0) (zs_ix p1) = 0 ∧ T2 = T ∧ r = za_enc (T.2 5 (zs_ix p0) (zs_ix p1))) ∨ (zo_kn T (zs_ix p0) (zs_ix p1) ≠ 0 ∧ T2 = T)))) (0) (0) (za_A b) := by
  refine zm_met (ccm := cX7_noteAt) (maxL := 3) (ret := (some .int)) (ws' := _) (own := RX7) (lv := [(0, .ref (ad 14 0)), (1, .int p0), (2, .int p1)]) (by decide) rfl rfl rfl (by simp [lg_sl, Value.category]) ?_
  intro pg en s m below meth c hx hb hml hr hown hts hlocks hK hZ hb0 hG hS ls hl
  have hf54 := hts (.fieldLink RX7 54 "VideoBridgeModel" "notes" "[I") (by decide +kernel)
  have hf57 := hts (.fieldLink RX7 57 "VideoBridgeModel" "note" "[I") (by decide +kernel)
  have hf66 := hts (.fieldLink RX7 66 "VideoBridgeModel" "code" "I") (by decide +kernel)
  have hinX7 : ∀ w ∈ u_ws RX7 TX7 25, w ∈ wsX7_noteAt := by decide +kernel
  skip
  obtain ⟨hI, hL, h6, hBY⟩ := id hM
  have hBT := hI.B
  have hc1 := hI.c
  have htI := hI.t
  refine lv_aload_n hx hb dX7_noteAt_0 rfl (lv_at hl 0 rfl) ?_
  refine zb_iconst (n := 0) hx hb dX7_noteAt_1 (by decide) ?_
  refine zp_MO_code hx hb hts hinX7 hown hf66 hS hK hG dX7_noteAt_2 (fun H locs hG hS => ?_)
  refine lv_aload_n hx hb dX7_noteAt_5 rfl (lv_at hl 0 rfl) ?_
  refine lv_iload_n hx hb dX7_noteAt_6 rfl (lv_at hl 1 rfl) ?_
  refine zc_Vi (As := [.int p0]) (rest := []) hK hZ hb0 hG hS hx hb hml hown hts (c_X7_isRecorder l p0 hBT) (cwV 1 hts gX7_noteAt_X7_isRecorder rfl rfl rfl (by decide +kernel) ⟨Nat.le_of_ble_eq_true rfl, Nat.le_of_ble_eq_true rfl⟩) (za_recv (q := (RX7, TX7, 25)) hK hG 14 0 ⟨by omega, rfl⟩ rfl rfl rfl) rfl hl rfl (Nat.le_of_ble_eq_true rfl) dX7_noteAt_7 ⟨Nat.le_of_ble_eq_true rfl, Nat.le_of_ble_eq_true rfl⟩ (fun r_7 u_7 H locs hp hG hS => ?_)
  obtain ⟨rfl, rfl⟩ := hp
  refine zb_if_ne (x := if zs_ix p0 < T.1 0 2 0 then 1 else 0) (tgt := 19) hx hb (zs_cl _) dX7_noteAt_10 (by decide) (fun c_10 => ?_) (fun c_10 => ?_)
  · have q_10 : zs_ix p0 < T.1 0 2 0 := zs_c1 c_10
    have hn9 := htI.2.2 (zs_ix p0) (by omega)
    have hl : lv_has ls 3 [(0, .ref (ad 14 0)), (1, .int (nI (zs_ix p0))), (2, .int p1)] := by rw [zs_ixe q_10 (by omega)]; exact hl
    refine lv_iload_n hx hb dX7_noteAt_19 rfl (lv_at hl 2 rfl) ?_
    refine zb_iconst (n := 0) hx hb dX7_noteAt_20 (by decide) ?_
    refine lv_aload_n hx hb dX7_noteAt_21 rfl (lv_at hl 0 rfl) ?_
    refine zg_MO_notes hx hb hts hinX7 hown hf54 hK hG dX7_noteAt_22 ?_
    refine lv_iload_n hx hb dX7_noteAt_25 rfl (lv_at hl 1 rfl) ?_
    refine zld_MN (n := T.1 7 (zs_ix p0) 0) hx hb hK hG (by omega) rfl dX7_noteAt_26 ?_
    refine zb_iconst (n := 1) hx hb dX7_noteAt_27 (by decide) ?_
    refine lv_isub hx hb dX7_noteAt_28 ?_
    refine zc_Si (As := [.int p1, .int (nI 0), .int (nI (T.1 7 (zs_ix p0) 0) - nI 1)]) (rest := []) hK hZ hb0 hG hS hx hb hml hown hts (c_X7_in l p1 (nI 0) (nI (T.1 7 (zs_ix p0) 0) - nI 1)) (cwS 3 hts gX7_noteAt_X7_in rfl rfl rfl (by decide +kernel) ⟨Nat.le_of_ble_eq_true rfl, Nat.le_of_ble_eq_true rfl⟩) rfl hl rfl (Nat.le_of_ble_eq_true rfl) dX7_noteAt_29 ⟨Nat.le_of_ble_eq_true rfl, Nat.le_of_ble_eq_true rfl⟩ (fun r_29 u_29 H locs hp hG hS => ?_)
    rw [zm_in_0 (hBT _ _ _)] at hp
    obtain ⟨rfl, rfl⟩ := hp
    refine zb_if_eq (x := if zs_ix p1 < T.1 7 (zs_ix p0) 0 then 1 else 0) (tgt := 50) hx hb (zs_cl _) dX7_noteAt_32 (by decide) (fun c_32 => ?_) (fun c_32 => ?_)
    · have q_32 : ¬ (zs_ix p1 < T.1 7 (zs_ix p0) 0) := zs_c0 c_32
      refine lv_aload_n hx hb dX7_noteAt_50 rfl (lv_at hl 0 rfl) ?_
      refine zb_iconst (n := 2) hx hb dX7_noteAt_51 (by decide) ?_
      refine zc_Vi (As := [.int (nI 2)]) (rest := []) hK hZ hb0 hG hS hx hb hml hown hts (c_X7_fails l 2) (cwV 1 hts gX7_noteAt_X7_fails rfl rfl rfl (by decide +kernel) ⟨Nat.le_of_ble_eq_true rfl, Nat.le_of_ble_eq_true rfl⟩) (za_recv (q := (RX7, TX7, 25)) hK hG 14 0 ⟨by omega, rfl⟩ rfl rfl rfl) rfl hl rfl (Nat.le_of_ble_eq_true rfl) dX7_noteAt_52 ⟨Nat.le_of_ble_eq_true rfl, Nat.le_of_ble_eq_true rfl⟩ (fun r_52 u_52 H locs hp hG hS => ?_)
      obtain ⟨rfl, rfl⟩ := hp
      have hcode : zo_kn T (zs_ix p0) (zs_ix p1) = 2 := by unfold zo_kn; (first | rfl | ((repeat' split) <;> first | rfl | (exfalso; omega) | contradiction | (exfalso; simp_all; done)))
      exact zm_iret hx hb hr hlocks hG hS (by omega) (by omega) ⟨_, _, rfl, by rw [hcode]; exact zy_N (zs_N_B hBY (by decide)) (by decide), Or.inr ⟨by rw [hcode]; decide, rfl⟩⟩ dX7_noteAt_55
    · have q_32 : zs_ix p1 < T.1 7 (zs_ix p0) 0 := zs_c1 c_32
      have hl : lv_has ls 3 [(0, .ref (ad 14 0)), (1, .int (nI (zs_ix p0))), (2, .int (nI (zs_ix p1)))] := by rw [zs_ixe q_32 (by omega)]; exact hl
      refine lv_aload_n hx hb dX7_noteAt_35 rfl (lv_at hl 0 rfl) ?_
      refine zg_MO_note hx hb hts hinX7 hown hf57 hK hG dX7_noteAt_36 ?_
      refine zb_sipush (n := 2000) hx hb dX7_noteAt_39 (by decide) ?_
      refine lv_iload_n hx hb dX7_noteAt_42 rfl (lv_at hl 1 rfl) ?_
      refine zb_imul hx hb dX7_noteAt_43 ?_
      refine lv_iload_n hx hb dX7_noteAt_44 rfl (lv_at hl 2 rfl) ?_
      refine zb_iadd hx hb dX7_noteAt_45 ?_
      refine zld_MV (r := T.2 5 (zs_ix p0) (zs_ix p1)) hx hb hK hG (by omega) (zs_nh rfl (by omega) rfl) dX7_noteAt_46 ?_
      refine zb_goto (tgt := 55) hx hb dX7_noteAt_47 (by decide) ?_
      have hcode : zo_kn T (zs_ix p0) (zs_ix p1) = 0 := by unfold zo_kn; (first | rfl | ((repeat' split) <;> first | rfl | (exfalso; omega) | contradiction | (exfalso; simp_all; done)))
      exact zm_iret hx hb hr hlocks hG hS (by omega) (by omega) ⟨_, _, rfl, by rw [hcode]; exact zy_N hBY (by decide), Or.inl ⟨hcode, rfl, rfl⟩⟩ dX7_noteAt_55
  · have q_10 : ¬ (zs_ix p0 < T.1 0 2 0) := zs_c0 c_10
    refine lv_aload_n hx hb dX7_noteAt_13 rfl (lv_at hl 0 rfl) ?_
    refine zb_iconst (n := 1) hx hb dX7_noteAt_14 (by decide) ?_
    refine zc_Vi (As := [.int (nI 1)]) (rest := []) hK hZ hb0 hG hS hx hb hml hown hts (c_X7_fails l 1) (cwV 1 hts gX7_noteAt_X7_fails rfl rfl rfl (by decide +kernel) ⟨Nat.le_of_ble_eq_true rfl, Nat.le_of_ble_eq_true rfl⟩) (za_recv (q := (RX7, TX7, 25)) hK hG 14 0 ⟨by omega, rfl⟩ rfl rfl rfl) rfl hl rfl (Nat.le_of_ble_eq_true rfl) dX7_noteAt_15 ⟨Nat.le_of_ble_eq_true rfl, Nat.le_of_ble_eq_true rfl⟩ (fun r_15 u_15 H locs hp hG hS => ?_)
    obtain ⟨rfl, rfl⟩ := hp
    have hcode : zo_kn T (zs_ix p0) (zs_ix p1) = 1 := by unfold zo_kn; (first | rfl | ((repeat' split) <;> first | rfl | (exfalso; omega) | contradiction | (exfalso; simp_all; done)))
    exact zm_iret hx hb hr hlocks hG hS (by omega) (by omega) ⟨_, _, rfl, by rw [hcode]; exact zy_N (zs_N_B hBY (by decide)) (by decide), Or.inr ⟨by rw [hcode]; decide, rfl⟩⟩ dX7_noteAt_18
