set_option maxRecDepth 100000 in
set_option maxHeartbeats 4000000 in
theorem c_X6_enter (l : Launch) (hl0 : l.stackTraces = false) {E : za_E} {b : Nat} {ad : za_Ad} {S X T Y : za_S} {ow : Int64} {dw : UInt64} (p0 p1 : Int32) (hC : zs_C S X)  : vx_Met l yX6_enter wsX6_enter ({ frames := 7, cells := 3, slots := 18, locals := 139 } : Room) (za_Pc E b (ad, S, X, T, Y, ow, dw) [.ref (ad 0 0), .int p0, .int p1]) (za_Qi E b (fun r u => zo_en S (zs_ix p0) (zs_ix p1) = 0 ∧ r = nI ((zs_st (zs_mv S (zs_ix p0) (some (zs_ix p1))) 10).1 5 (zs_ix p1) 0) ∧ ∃ X2, u = (ad, zs_st (zs_mv S (zs_ix p0) (some (zs_ix p1))) 10, X2, T, Y, ow, dw) ∧ zs_fv X X2 ∧ zs_B X2 ∧ zs_ok (zs_st (zs_mv S (zs_ix p0) (some (zs_ix p1))) 10) X2)) (za_X E b (fun En u => (En = "java/util/NoSuchElementException" ∧ zo_en S (zs_ix p0) (zs_ix p1) = 1 ∧ u = (ad, S, X, T, Y, ow, dw)) ∨ (En = "java/lang/IndexOutOfBoundsException" ∧ zo_en S (zs_ix p0) (zs_ix p1) = 2 ∧ u = (ad, S, X, T, Y, ow, dw)) ∨ (En = "java/lang/IllegalStateException" ∧ zo_en S (zs_ix p0) (zs_ix p1) = 3 ∧ u = (ad, S, X, T, Y, ow, dw)))) (3) (18) (za_A b) := by
  refine zx_met (ccm := cX6_enter) (maxL := 5) (ret := (some .int)) (ws' := _) (own := RX6) (lv := [(0, .ref (ad 0 0)), (1, .int p0), (2, .int p1)]) (by decide) rfl rfl rfl (by simp [lg_sl, Value.category]) ?_
  intro pg en s m below meth c hx hb hml hr hown hts hlocks htb hK hZ hb0 hG hS ls hl
  have hf106 := hts (.fieldLink RX6 106 "VideoBridge$Room" "size" "I") (by decide +kernel)
  have hf93 := hts (.fieldLink RX6 93 "VideoBridge$Person" "room" "LVideoBridge$Room;") (by decide +kernel)
  have hiISE := hts (.initialized "java/lang/IllegalStateException") (by decide +kernel)
  have hk51 := hts (.classLink RX6 51 "java/lang/IllegalStateException") (by decide +kernel)
  have hinX2 : ∀ w ∈ u_ws RX2 TX2 8, w ∈ wsX6_enter := by decide +kernel
  have hinX4 : ∀ w ∈ u_ws RX4 TX4 6, w ∈ wsX6_enter := by decide +kernel
  skip
  obtain ⟨hI, hJ, hBX, hok, hRw⟩ := hC
  have hBS := hI.B
  have hc1 := hI.c
  refine lv_aload_n hx hb dX6_enter_0 rfl (lv_at hl 0 rfl) ?_
  refine lv_iload_n hx hb dX6_enter_1 rfl (lv_at hl 1 rfl) ?_
  refine zc_xVq (κ := 8) (As := [.int p0]) (rest := []) hK hZ hb0 hG hS hx hb hml hown hts (c_X6_personOf l hl0 p0 hJ hBX hBS) (cwV 1 hts gX6_enter_X6_personOf rfl rfl rfl (by decide +kernel) ⟨Nat.le_of_ble_eq_true rfl, Nat.le_of_ble_eq_true rfl⟩) (za_recv (q := (RX6, TX6, 11)) hK hG 0 0 ⟨by omega, rfl⟩ rfl rfl rfl) rfl hl rfl (Nat.le_of_ble_eq_true rfl) dX6_enter_2 ⟨Nat.le_of_ble_eq_true rfl, Nat.le_of_ble_eq_true rfl⟩ (fun En ce q9 u_2 H locs hp hG hS g1 g2 g3 => ?_) (fun r_2 u_2 H locs hp hG hS => ?_)
  · obtain ⟨rfl, h1, rfl⟩ := hp
    exact vx_out (fun x h => (htb x h).elim) hlocks g1 g2 g3 (fun t ht hW => ⟨(_, _), (Or.inl ⟨rfl, by unfold zo_en; rw [if_pos h1], rfl⟩), ⟨rfl, by show za_G E b _ t.heap; rw [ht]; exact hG⟩, hS.F ht⟩) hS.2.2 (by omega) (by omega)
  · obtain ⟨rfl, h1, rfl⟩ := hp
    refine lv_astore_n (lv' := [(3, .ref (ad 8 (zs_ix p0))), (0, .ref (ad 0 0)), (1, .int p0), (2, .int p1)]) hx hb dX6_enter_5 rfl hl (by decide) rfl (fun ls hl => ?_)
    refine lv_aload_n hx hb dX6_enter_6 rfl (lv_at hl 1 rfl) ?_
    refine lv_iload_n hx hb dX6_enter_7 rfl (lv_at hl 3 rfl) ?_
    refine zc_xVq (κ := 9) (As := [.int p1]) (rest := []) hK hZ hb0 hG hS hx hb hml hown hts (c_X6_roomNumbered l hl0 p1 hJ hBX hBS) (cwV 1 hts gX6_enter_X6_roomNumbered rfl rfl rfl (by decide +kernel) ⟨Nat.le_of_ble_eq_true rfl, Nat.le_of_ble_eq_true rfl⟩) (za_recv (q := (RX6, TX6, 11)) hK hG 0 0 ⟨by omega, rfl⟩ rfl rfl rfl) rfl hl rfl (Nat.le_of_ble_eq_true rfl) dX6_enter_8 ⟨Nat.le_of_ble_eq_true rfl, Nat.le_of_ble_eq_true rfl⟩ (fun En ce q9 u_8 H locs hp hG hS g1 g2 g3 => ?_) (fun r_8 u_8 H locs hp hG hS => ?_)
    · obtain ⟨rfl, h2, rfl⟩ := hp
      exact vx_out (fun x h => (htb x h).elim) hlocks g1 g2 g3 (fun t ht hW => ⟨(_, _), (Or.inr (Or.inl ⟨rfl, by unfold zo_en; rw [if_neg (fun h => h h1), if_pos h2], rfl⟩)), ⟨rfl, by show za_G E b _ t.heap; rw [ht]; exact hG⟩, hS.F ht⟩) hS.2.2 (by omega) (by omega)
    · obtain ⟨rfl, h2, rfl⟩ := hp
      refine lv_astore (lv' := [(4, .ref (ad 9 (zs_ix p1))), (3, .ref (ad 8 (zs_ix p0))), (0, .ref (ad 0 0)), (1, .int p0), (2, .int p1)]) hx hb dX6_enter_11 hl (by decide) rfl (fun ls hl => ?_)
      refine lv_aload_n hx hb dX6_enter_13 rfl (lv_at hl 1 rfl) ?_
      refine zg_PE_room hx hb hts hinX2 hown hf93 hK hG (zs_ix p0) (hJ.pe h1) (r := S.2 0 (zs_ix p0) 0) rfl dX6_enter_14 ?_
      refine lv_aload hx hb dX6_enter_17 (lv_at hl 0 rfl) ?_
      refine zb_acmp_ne (tgt := 32) hx hb hG 9 (by decide) (S.2 0 (zs_ix p0) 0) (some (zs_ix p1)) (fun x hx => hJ.ro (hI.ro h1 hx)) (by rintro _ ⟨⟩; exact (hJ.ro h2)) dX6_enter_19 (by decide) (fun c_19 => ?_) (fun c_19 => ?_)
      · refine lv_aload_n hx hb dX6_enter_32 rfl (lv_at hl 1 rfl) ?_
        refine lv_aload hx hb dX6_enter_33 (lv_at hl 0 rfl) ?_
        refine zc_Sv (As := [.ref (ad 8 (zs_ix p0)), .ref (ad 9 (zs_ix p1))]) (rest := []) hK hZ hb0 hG hS hx hb hml hown hts (c_X6_move l (zs_ix p0) (some (zs_ix p1)) (hJ.pe h1) (zs_Q.mro hI.1 hJ h1) (fun r i x e => hJ.pe (zs_Q.pe hI.1 r i x e)) (zs_Q.mto hI.1 hJ h1 (by rintro _ ⟨⟩; exact h2) c_19) (zs_mo_B hBS (zs_ix p0)) hBX hBS) (cwS 2 hts gX6_enter_X6_move rfl rfl rfl (by decide +kernel) ⟨Nat.le_of_ble_eq_true rfl, Nat.le_of_ble_eq_true rfl⟩) rfl hl rfl (Nat.le_of_ble_eq_true rfl) dX6_enter_35 ⟨Nat.le_of_ble_eq_true rfl, Nat.le_of_ble_eq_true rfl⟩ (fun u_35 H locs hp hG hS => ?_)
        subst hp
        have hW1 := zs_W_mv hI.1 h1 (q := some (zs_ix p1)) (by rintro _ ⟨⟩; exact h2) c_19
        have hJ1 := zs_J_c hJ (zs_mv_c S (zs_ix p0) (some (zs_ix p1)))
        refine lv_aload_n hx hb dX6_enter_38 rfl (lv_at hl 2 rfl) ?_
        refine zc_Vv (As := []) (rest := []) hK hZ hb0 hG hS hx hb hml hown hts (c_X6_settle l hJ1 (fun a r ha e => zs_J.ro hJ1 (zs_Q.ro hW1 (by rw [(hJ1).2.2.2.1] at ha; exact ha) e)) (fun a q ha e => zs_J.pe hJ1 (zs_Q.pi hW1 (by rw [(hJ1).2.2.2.1] at ha; exact ha) e).1) (zs_W_st hW1).Va hBX hW1.B) (cwV 0 hts gX6_enter_X6_settle rfl rfl rfl (by decide +kernel) ⟨Nat.le_of_ble_eq_true rfl, Nat.le_of_ble_eq_true rfl⟩) (za_recv (q := (RX6, TX6, 11)) hK hG 0 0 ⟨by omega, rfl⟩ rfl rfl rfl) rfl hl rfl (Nat.le_of_ble_eq_true rfl) dX6_enter_39 ⟨Nat.le_of_ble_eq_true rfl, Nat.le_of_ble_eq_true rfl⟩ (fun u_39 H locs hp hG hS => ?_)
        obtain ⟨X2, rfl, q1, q2, q3⟩ := hp
        refine lv_aload hx hb dX6_enter_42 (lv_at hl 0 rfl) ?_
        refine zg_RM_size hx hb hts hinX4 hown hf106 hK hG (zs_ix p1) (zs_J.ro (hJ.fv q1) h2) (n := (zs_st (zs_mv S (zs_ix p0) (some (zs_ix p1))) 10).1 5 (zs_ix p1) 0) rfl dX6_enter_44 ?_
        exact vx_ret (zm_iret hx hb hr hlocks hG hS (by omega) (by omega) ⟨by unfold zo_en; rw [if_neg (fun h => h h1), if_neg (fun h => h h2), if_neg c_19], rfl, X2, rfl, q1, q2, q3⟩ dX6_enter_47)
      · exact zt_throw (cls := "java/lang/IllegalStateException") (text := "the person is in this room") (ik := 51) (is := 97) (ic := 55) hx hb hl0 hZ hG hS hml hl hown htb hlocks (by simp [za_exs]) (by simp [za_texts]) (by decide +kernel) hk51 hiISE (fun w h => hts w (by simp only [wsX6_enter, List.mem_cons, List.mem_append, h, or_true, true_or])) zt_ng_ISE zt_gd_ISE dX6_enter_22 dX6_enter_25 dX6_enter_26 dX6_enter_28 dX6_enter_31 (by decide) (by decide) (by first | (show _ + 1 ≤ _; omega) | decide) (by first | (show _ + 6 ≤ _; omega) | decide) (by omega) (by omega) (Or.inr (Or.inr ⟨rfl, by unfold zo_en; rw [if_neg (fun h => h h1), if_neg (fun h => h h2), if_pos c_19], rfl⟩))

set_option maxRecDepth 100000 in
set_option maxHeartbeats 4000000 in
theorem c_X6_leave (l : Launch) (hl0 : l.stackTraces = false) {E : za_E} {b : Nat} {ad : za_Ad} {S X T Y : za_S} {ow : Int64} {dw : UInt64} (p0 : Int32) (hC : zs_C S X)  : vx_Met l yX6_leave wsX6_leave ({ frames := 7, cells := 3, slots := 18, locals := 139 } : Room) (za_Pc E b (ad, S, X, T, Y, ow, dw) [.ref (ad 0 0), .int p0]) (za_Qi E b (fun r u => zo_po S (zs_ix p0) 0 = 0 ∧ r = nI ((S.2 0 (zs_ix p0) 0).getD 0) ∧ ∃ X2, u = (ad, zs_st (zs_mv S (zs_ix p0) none) 10, X2, T, Y, ow, dw) ∧ zs_fv X X2 ∧ zs_B X2 ∧ zs_ok (zs_st (zs_mv S (zs_ix p0) none) 10) X2)) (za_X E b (fun En u => (En = "java/util/NoSuchElementException" ∧ zo_po S (zs_ix p0) 0 = 1 ∧ u = (ad, S, X, T, Y, ow, dw)) ∨ (En = "java/lang/IllegalStateException" ∧ zo_po S (zs_ix p0) 0 = 2 ∧ u = (ad, S, X, T, Y, ow, dw)))) (3) (18) (za_A b) := by
  refine zx_met (ccm := cX6_leave) (maxL := 4) (ret := (some .int)) (ws' := _) (own := RX6) (lv := [(0, .ref (ad 0 0)), (1, .int p0)]) (by decide) rfl rfl rfl (by simp [lg_sl, Value.category]) ?_
  intro pg en s m below meth c hx hb hml hr hown hts hlocks htb hK hZ hb0 hG hS ls hl
  have hf86 := hts (.fieldLink RX6 86 "VideoBridge$Room" "number" "I") (by decide +kernel)
  have hf93 := hts (.fieldLink RX6 93 "VideoBridge$Person" "room" "LVideoBridge$Room;") (by decide +kernel)
  have hiISE := hts (.initialized "java/lang/IllegalStateException") (by decide +kernel)
  have hk51 := hts (.classLink RX6 51 "java/lang/IllegalStateException") (by decide +kernel)
  have hinX2 : ∀ w ∈ u_ws RX2 TX2 8, w ∈ wsX6_leave := by decide +kernel
  have hinX4 : ∀ w ∈ u_ws RX4 TX4 6, w ∈ wsX6_leave := by decide +kernel
  skip
  obtain ⟨hI, hJ, hBX, hok, hRw⟩ := hC
  have hBS := hI.B
  have hc1 := hI.c
  refine lv_aload_n hx hb dX6_leave_0 rfl (lv_at hl 0 rfl) ?_
  refine lv_iload_n hx hb dX6_leave_1 rfl (lv_at hl 1 rfl) ?_
  refine zc_xVq (κ := 8) (As := [.int p0]) (rest := []) hK hZ hb0 hG hS hx hb hml hown hts (c_X6_personOf l hl0 p0 hJ hBX hBS) (cwV 1 hts gX6_leave_X6_personOf rfl rfl rfl (by decide +kernel) ⟨Nat.le_of_ble_eq_true rfl, Nat.le_of_ble_eq_true rfl⟩) (za_recv (q := (RX6, TX6, 11)) hK hG 0 0 ⟨by omega, rfl⟩ rfl rfl rfl) rfl hl rfl (Nat.le_of_ble_eq_true rfl) dX6_leave_2 ⟨Nat.le_of_ble_eq_true rfl, Nat.le_of_ble_eq_true rfl⟩ (fun En ce q9 u_2 H locs hp hG hS g1 g2 g3 => ?_) (fun r_2 u_2 H locs hp hG hS => ?_)
  · obtain ⟨rfl, h1, rfl⟩ := hp
    exact vx_out (fun x h => (htb x h).elim) hlocks g1 g2 g3 (fun t ht hW => ⟨(_, _), (Or.inl ⟨rfl, by unfold zo_po; rw [if_pos h1], rfl⟩), ⟨rfl, by show za_G E b _ t.heap; rw [ht]; exact hG⟩, hS.F ht⟩) hS.2.2 (by omega) (by omega)
  · obtain ⟨rfl, h1, rfl⟩ := hp
    refine lv_astore_n (lv' := [(2, .ref (ad 8 (zs_ix p0))), (0, .ref (ad 0 0)), (1, .int p0)]) hx hb dX6_leave_5 rfl hl (by decide) rfl (fun ls hl => ?_)
    refine lv_aload_n hx hb dX6_leave_6 rfl (lv_at hl 0 rfl) ?_
    refine zg_PE_room hx hb hts hinX2 hown hf93 hK hG (zs_ix p0) (hJ.pe h1) (r := S.2 0 (zs_ix p0) 0) rfl dX6_leave_7 ?_
    refine zb_ostore_n (ad := ad) (κ := 9) (r := S.2 0 (zs_ix p0) 0) (lv' := [(3, za_o ad 9 (S.2 0 (zs_ix p0) 0)), (2, .ref (ad 8 (zs_ix p0))), (0, .ref (ad 0 0)), (1, .int p0)]) hx hb dX6_leave_10 rfl hl (by decide) rfl (fun ls hl => ?_)
    refine zb_oload_n hx hb dX6_leave_11 rfl (lv_at hl 0 rfl) ?_
    refine zb_ifnonnull (κ := 9) (r := S.2 0 (zs_ix p0) 0) (tgt := 25) hx hb dX6_leave_12 (by decide) (fun x_1 c_12 => ?_) (fun c_12 => ?_)
    · rw [c_12] at hl
      have hv_2 : ∀ z, S.2 0 (zs_ix p0) 0 = some z → z < X.1 5 1 0 := (fun x hx => hJ.ro (hI.ro h1 hx))
      have hne : S.2 0 (zs_ix p0) 0 ≠ none := by rw [c_12]; exact fun h => by cases h
      refine lv_aload_n hx hb dX6_leave_25 rfl (lv_at hl 1 rfl) ?_
      refine lv_null hx hb dX6_leave_26 ?_
      refine zc_Sv (As := [.ref (ad 8 (zs_ix p0)), .null]) (rest := []) hK hZ hb0 hG hS hx hb hml hown hts (c_X6_move l (zs_ix p0) none (hJ.pe h1) (zs_Q.mro hI.1 hJ h1) (fun r i x e => hJ.pe (zs_Q.pe hI.1 r i x e)) (zs_Q.mto hI.1 hJ h1 (by rintro _ ⟨⟩) hne) (zs_mo_B hBS (zs_ix p0)) hBX hBS) (cwS 2 hts gX6_leave_X6_move rfl rfl rfl (by decide +kernel) ⟨Nat.le_of_ble_eq_true rfl, Nat.le_of_ble_eq_true rfl⟩) rfl hl rfl (Nat.le_of_ble_eq_true rfl) dX6_leave_27 ⟨Nat.le_of_ble_eq_true rfl, Nat.le_of_ble_eq_true rfl⟩ (fun u_27 H locs hp hG hS => ?_)
      subst hp
      have hW1 := zs_W_mv hI.1 h1 (q := none) (by rintro _ ⟨⟩) hne
      have hJ1 := zs_J_c hJ (zs_mv_c S (zs_ix p0) none)
      refine lv_aload_n hx hb dX6_leave_30 rfl (lv_at hl 2 rfl) ?_
      refine zc_Vv (As := []) (rest := []) hK hZ hb0 hG hS hx hb hml hown hts (c_X6_settle l hJ1 (fun a r ha e => zs_J.ro hJ1 (zs_Q.ro hW1 (by rw [(hJ1).2.2.2.1] at ha; exact ha) e)) (fun a q ha e => zs_J.pe hJ1 (zs_Q.pi hW1 (by rw [(hJ1).2.2.2.1] at ha; exact ha) e).1) (zs_W_st hW1).Va hBX hW1.B) (cwV 0 hts gX6_leave_X6_settle rfl rfl rfl (by decide +kernel) ⟨Nat.le_of_ble_eq_true rfl, Nat.le_of_ble_eq_true rfl⟩) (za_recv (q := (RX6, TX6, 11)) hK hG 0 0 ⟨by omega, rfl⟩ rfl rfl rfl) rfl hl rfl (Nat.le_of_ble_eq_true rfl) dX6_leave_31 ⟨Nat.le_of_ble_eq_true rfl, Nat.le_of_ble_eq_true rfl⟩ (fun u_31 H locs hp hG hS => ?_)
      obtain ⟨X2, rfl, q1, q2, q3⟩ := hp
      refine lv_aload_n hx hb dX6_leave_34 rfl (lv_at hl 0 rfl) ?_
      refine zg_RM_number hx hb hts hinX4 hown hf86 hK hG x_1 (zs_J.ro (hJ.fv q1) (hI.ro h1 c_12)) dX6_leave_35 ?_
      exact vx_ret (zm_iret hx hb hr hlocks hG hS (by omega) (by omega) ⟨by unfold zo_po; rw [if_neg (fun h => h h1), if_neg hne], by rw [c_12]; rfl, X2, rfl, q1, q2, q3⟩ dX6_leave_38)
    · rw [c_12] at hl
      exact zt_throw (cls := "java/lang/IllegalStateException") (text := "the person is in no room") (ik := 51) (is := 109) (ic := 55) hx hb hl0 hZ hG hS hml hl hown htb hlocks (by simp [za_exs]) (by simp [za_texts]) (by decide +kernel) hk51 hiISE (fun w h => hts w (by simp only [wsX6_leave, List.mem_cons, List.mem_append, h, or_true, true_or])) zt_ng_ISE zt_gd_ISE dX6_leave_15 dX6_leave_18 dX6_leave_19 dX6_leave_21 dX6_leave_24 (by decide) (by decide) (by first | (show _ + 1 ≤ _; omega) | decide) (by first | (show _ + 6 ≤ _; omega) | decide) (by omega) (by omega) (Or.inr ⟨rfl, by unfold zo_po; rw [if_neg (fun h => h h1), if_pos c_12], rfl⟩)

set_option maxRecDepth 100000 in
set_option maxHeartbeats 4000000 in
theorem c_X6_pin (l : Launch) (hl0 : l.stackTraces = false) {E : za_E} {b : Nat} {ad : za_Ad} {S X T Y : za_S} {ow : Int64} {dw : UInt64} (p0 p1 : Int32) (hC : zs_C S X)  : vx_Met l yX6_pin wsX6_pin ({ frames := 7, cells := 3, slots := 18, locals := 115 } : Room) (za_Pc E b (ad, S, X, T, Y, ow, dw) [.ref (ad 0 0), .int p0, .int p1]) (za_Qi E b (fun r u => zo_pin S (zs_ix p0) (zs_ix p1) = 0 ∧ r = za_enc (S.2 1 (zs_ix p0) 0) ∧ ∃ X2, u = (ad, za_P S 1 (zs_ix p0) 0 (some (zs_ix p1)), X2, T, Y, ow, dw) ∧ zs_fv X X2 ∧ zs_B X2 ∧ zs_ok (za_P S 1 (zs_ix p0) 0 (some (zs_ix p1))) X2)) (za_X E b (fun En u => (En = "java/util/NoSuchElementException" ∧ zo_pin S (zs_ix p0) (zs_ix p1) = 1 ∧ u = (ad, S, X, T, Y, ow, dw)) ∨ (En = "java/lang/IllegalArgumentException" ∧ zo_pin S (zs_ix p0) (zs_ix p1) = 2 ∧ u = (ad, S, X, T, Y, ow, dw)) ∨ (En = "java/lang/UnsupportedOperationException" ∧ zo_pin S (zs_ix p0) (zs_ix p1) = 3 ∧ u = (ad, S, X, T, Y, ow, dw)))) (3) (18) (za_A b) := by
  refine zx_met (ccm := cX6_pin) (maxL := 6) (ret := (some .int)) (ws' := _) (own := RX6) (lv := [(0, .ref (ad 0 0)), (1, .int p0), (2, .int p1)]) (by decide) rfl rfl rfl (by simp [lg_sl, Value.category]) ?_
  intro pg en s m below meth c hx hb hml hr hown hts hlocks htb hK hZ hb0 hG hS ls hl
  have hf135 := hts (.fieldLink RX6 135 "VideoBridge$Person" "pinned" "LVideoBridge$Person;") (by decide +kernel)
  have hiIAE := hts (.initialized "java/lang/IllegalArgumentException") (by decide +kernel)
  have hiUOE := hts (.initialized "java/lang/UnsupportedOperationException") (by decide +kernel)
  have hk116 := hts (.classLink RX6 116 "java/lang/IllegalArgumentException") (by decide +kernel)
  have hk130 := hts (.classLink RX6 130 "java/lang/UnsupportedOperationException") (by decide +kernel)
  have hinX2 : ∀ w ∈ u_ws RX2 TX2 8, w ∈ wsX6_pin := by decide +kernel
  skip
  obtain ⟨hI, hJ, hBX, hok, hRw⟩ := hC
  have hBS := hI.B
  have hc1 := hI.c
  refine lv_aload_n hx hb dX6_pin_0 rfl (lv_at hl 0 rfl) ?_
  refine lv_iload_n hx hb dX6_pin_1 rfl (lv_at hl 1 rfl) ?_
  refine zc_xVq (κ := 8) (As := [.int p0]) (rest := []) hK hZ hb0 hG hS hx hb hml hown hts (c_X6_personOf l hl0 p0 hJ hBX hBS) (cwV 1 hts gX6_pin_X6_personOf rfl rfl rfl (by decide +kernel) ⟨Nat.le_of_ble_eq_true rfl, Nat.le_of_ble_eq_true rfl⟩) (za_recv (q := (RX6, TX6, 11)) hK hG 0 0 ⟨by omega, rfl⟩ rfl rfl rfl) rfl hl rfl (Nat.le_of_ble_eq_true rfl) dX6_pin_2 ⟨Nat.le_of_ble_eq_true rfl, Nat.le_of_ble_eq_true rfl⟩ (fun En ce q9 u_2 H locs hp hG hS g1 g2 g3 => ?_) (fun r_2 u_2 H locs hp hG hS => ?_)
  · obtain ⟨rfl, h1, rfl⟩ := hp
    exact vx_out (fun x h => (htb x h).elim) hlocks g1 g2 g3 (fun t ht hW => ⟨(_, _), (Or.inl ⟨rfl, by unfold zo_pin; rw [if_pos h1], rfl⟩), ⟨rfl, by show za_G E b _ t.heap; rw [ht]; exact hG⟩, hS.F ht⟩) hS.2.2 (by omega) (by omega)
  · obtain ⟨rfl, h1, rfl⟩ := hp
    refine lv_astore_n (lv' := [(3, .ref (ad 8 (zs_ix p0))), (0, .ref (ad 0 0)), (1, .int p0), (2, .int p1)]) hx hb dX6_pin_5 rfl hl (by decide) rfl (fun ls hl => ?_)
    refine lv_aload_n hx hb dX6_pin_6 rfl (lv_at hl 1 rfl) ?_
    refine lv_iload_n hx hb dX6_pin_7 rfl (lv_at hl 3 rfl) ?_
    refine zc_xVq (κ := 8) (As := [.int p1]) (rest := []) hK hZ hb0 hG hS hx hb hml hown hts (c_X6_personOf l hl0 p1 hJ hBX hBS) (cwV 1 hts gX6_pin_X6_personOf rfl rfl rfl (by decide +kernel) ⟨Nat.le_of_ble_eq_true rfl, Nat.le_of_ble_eq_true rfl⟩) (za_recv (q := (RX6, TX6, 11)) hK hG 0 0 ⟨by omega, rfl⟩ rfl rfl rfl) rfl hl rfl (Nat.le_of_ble_eq_true rfl) dX6_pin_8 ⟨Nat.le_of_ble_eq_true rfl, Nat.le_of_ble_eq_true rfl⟩ (fun En ce q9 u_8 H locs hp hG hS g1 g2 g3 => ?_) (fun r_8 u_8 H locs hp hG hS => ?_)
    · obtain ⟨rfl, h2, rfl⟩ := hp
      exact vx_out (fun x h => (htb x h).elim) hlocks g1 g2 g3 (fun t ht hW => ⟨(_, _), (Or.inl ⟨rfl, by unfold zo_pin; rw [if_neg (fun h => h h1), if_pos h2], rfl⟩), ⟨rfl, by show za_G E b _ t.heap; rw [ht]; exact hG⟩, hS.F ht⟩) hS.2.2 (by omega) (by omega)
    · obtain ⟨rfl, h2, rfl⟩ := hp
      refine lv_astore (lv' := [(4, .ref (ad 8 (zs_ix p1))), (3, .ref (ad 8 (zs_ix p0))), (0, .ref (ad 0 0)), (1, .int p0), (2, .int p1)]) hx hb dX6_pin_11 hl (by decide) rfl (fun ls hl => ?_)
      refine lv_aload_n hx hb dX6_pin_13 rfl (lv_at hl 1 rfl) ?_
      refine lv_aload hx hb dX6_pin_14 (lv_at hl 0 rfl) ?_
      refine zb_acmp_ne (tgt := 29) hx hb hG 8 (by decide) (some (zs_ix p0)) (some (zs_ix p1)) (by rintro _ ⟨⟩; exact (hJ.pe h1)) (by rintro _ ⟨⟩; exact (hJ.pe h2)) dX6_pin_16 (by decide) (fun c_16 => ?_) (fun c_16 => ?_)
      · refine lv_aload_n hx hb dX6_pin_29 rfl (lv_at hl 1 rfl) ?_
        refine lv_aload hx hb dX6_pin_30 (lv_at hl 0 rfl) ?_
        refine zc_Si (As := [.ref (ad 8 (zs_ix p0)), .ref (ad 8 (zs_ix p1))]) (rest := []) hK hZ hb0 hG hS hx hb hml hown hts (c_X6_areTogether l (some (zs_ix p0)) (some (zs_ix p1)) (by rintro _ ⟨⟩; exact hJ.pe h1) (by rintro _ ⟨⟩; exact hJ.pe h2) (fun a r ha e => hJ.ro (hI.ro (by rw [hJ.2.2.2.1] at ha; exact ha) e))) (cwS 2 hts gX6_pin_X6_areTogether rfl rfl rfl (by decide +kernel) ⟨Nat.le_of_ble_eq_true rfl, Nat.le_of_ble_eq_true rfl⟩) rfl hl rfl (Nat.le_of_ble_eq_true rfl) dX6_pin_32 ⟨Nat.le_of_ble_eq_true rfl, Nat.le_of_ble_eq_true rfl⟩ (fun r_32 u_32 H locs hp hG hS => ?_)
        obtain ⟨rfl, rfl⟩ := hp
        have hbl := zs_bl (zs_tg S (some (zs_ix p0)) (some (zs_ix p1)))
        have hne : ¬ (zs_ix p0) = (zs_ix p1) := fun h => c_16 (by rw [h])
        refine zb_if_ne (x := if zs_tg S (some (zs_ix p0)) (some (zs_ix p1)) = true then 1 else 0) (tgt := 48) hx hb (by omega) dX6_pin_35 (by decide) (fun c_35 => ?_) (fun c_35 => ?_)
        · refine lv_aload_n hx hb dX6_pin_48 rfl (lv_at hl 1 rfl) ?_
          refine zg_PE_pinned hx hb hts hinX2 hown hf135 hK hG (zs_ix p0) (hJ.pe h1) (r := S.2 1 (zs_ix p0) 0) rfl dX6_pin_49 ?_
          refine zc_Si (As := [za_o ad 8 (S.2 1 (zs_ix p0) 0)]) (rest := []) hK hZ hb0 hG hS hx hb hml hown hts (c_X6_numberOf l (S.2 1 (zs_ix p0) 0) (fun x hx => hJ.pe (hI.pi h1 hx).1)) (cwS 1 hts gX6_pin_X6_numberOf rfl rfl rfl (by decide +kernel) ⟨Nat.le_of_ble_eq_true rfl, Nat.le_of_ble_eq_true rfl⟩) rfl hl rfl (Nat.le_of_ble_eq_true rfl) dX6_pin_52 ⟨Nat.le_of_ble_eq_true rfl, Nat.le_of_ble_eq_true rfl⟩ (fun r_52 u_52 H locs hp hG hS => ?_)
          obtain ⟨rfl, rfl⟩ := hp
          refine lv_istore (lv' := [(5, .int (za_enc (S.2 1 (zs_ix p0) 0))), (4, .ref (ad 8 (zs_ix p1))), (3, .ref (ad 8 (zs_ix p0))), (0, .ref (ad 0 0)), (1, .int p0), (2, .int p1)]) hx hb dX6_pin_55 hl (by decide) rfl (fun ls hl => ?_)
          refine lv_aload_n hx hb dX6_pin_57 rfl (lv_at hl 2 rfl) ?_
          refine lv_aload hx hb dX6_pin_58 (lv_at hl 1 rfl) ?_
          refine W.eq (g2 := F0 m 60 ls (za_o ad 8 (some (zs_ix p1)) :: [.ref (ad 8 (zs_ix p0))])) rfl ?_
          refine zp_PE_pinned hx hb hts hinX2 hown hf135 hS hK hG (zs_ix p0) (hJ.pe h1) (some (zs_ix p1)) dX6_pin_60 (fun H locs hG hS => ?_)
          refine lv_aload_n hx hb dX6_pin_63 rfl (lv_at hl 3 rfl) ?_
          refine zc_Vv (As := []) (rest := []) hK hZ hb0 hG hS hx hb hml hown hts (c_X6_chooseViews l (zs_J_c hJ rfl) (zs_I_pin hI h1 h2 hne (zs_b1 c_35)).Va hBX hBS) (cwV 0 hts gX6_pin_X6_chooseViews rfl rfl rfl (by decide +kernel) ⟨Nat.le_of_ble_eq_true rfl, Nat.le_of_ble_eq_true rfl⟩) (za_recv (q := (RX6, TX6, 11)) hK hG 0 0 ⟨by omega, rfl⟩ rfl rfl rfl) rfl hl rfl (Nat.le_of_ble_eq_true rfl) dX6_pin_64 ⟨Nat.le_of_ble_eq_true rfl, Nat.le_of_ble_eq_true rfl⟩ (fun u_64 H locs hp hG hS => ?_)
          obtain ⟨X2, rfl, q1, q2, q3, q4⟩ := hp
          refine lv_iload hx hb dX6_pin_67 (lv_at hl 0 rfl) ?_
          exact vx_ret (zm_iret hx hb hr hlocks hG hS (by omega) (by omega) ⟨by unfold zo_pin; rw [if_neg (fun h => h h1), if_neg (fun h => h h2), if_neg hne, if_neg (by rw [zs_b1 c_35]; decide)], rfl, X2, rfl, q1, q2, q3, q4⟩ dX6_pin_69)
        · exact zt_throw (cls := "java/lang/UnsupportedOperationException") (text := "both are not in the same room") (ik := 130) (is := 132) (ic := 134) hx hb hl0 hZ hG hS hml hl hown htb hlocks (by simp [za_exs]) (by simp [za_texts]) (by decide +kernel) hk130 hiUOE (fun w h => hts w (by simp only [wsX6_pin, List.mem_cons, List.mem_append, h, or_true, true_or])) zt_ng_UOE zt_gd_UOE dX6_pin_38 dX6_pin_41 dX6_pin_42 dX6_pin_44 dX6_pin_47 (by decide) (by decide) (by first | (show _ + 1 ≤ _; omega) | decide) (by first | (show _ + 6 ≤ _; omega) | decide) (by omega) (by omega) (Or.inr (Or.inr ⟨rfl, by unfold zo_pin; rw [if_neg (fun h => h h1), if_neg (fun h => h h2), if_neg hne, if_pos (zs_b0 c_35)], rfl⟩))
      · exact zt_throw (cls := "java/lang/IllegalArgumentException") (text := "both are the same") (ik := 116) (is := 124) (ic := 120) hx hb hl0 hZ hG hS hml hl hown htb hlocks (by simp [za_exs]) (by simp [za_texts]) (by decide +kernel) hk116 hiIAE (fun w h => hts w (by simp only [wsX6_pin, List.mem_cons, List.mem_append, h, or_true, true_or])) zt_ng_IAE zt_gd_IAE dX6_pin_19 dX6_pin_22 dX6_pin_23 dX6_pin_25 dX6_pin_28 (by decide) (by decide) (by first | (show _ + 1 ≤ _; omega) | decide) (by first | (show _ + 6 ≤ _; omega) | decide) (by omega) (by omega) (Or.inr (Or.inl ⟨rfl, by unfold zo_pin; rw [if_neg (fun h => h h1), if_neg (fun h => h h2), if_pos (Option.some.inj c_16)], rfl⟩))

set_option maxRecDepth 100000 in
set_option maxHeartbeats 4000000 in
theorem c_X6_unpin (l : Launch) (hl0 : l.stackTraces = false) {E : za_E} {b : Nat} {ad : za_Ad} {S X T Y : za_S} {ow : Int64} {dw : UInt64} (p0 : Int32) (hC : zs_C S X)  : vx_Met l yX6_unpin wsX6_unpin ({ frames := 7, cells := 3, slots := 18, locals := 115 } : Room) (za_Pc E b (ad, S, X, T, Y, ow, dw) [.ref (ad 0 0), .int p0]) (za_Qi E b (fun r u => zo_po S (zs_ix p0) 1 = 0 ∧ r = nI ((S.2 1 (zs_ix p0) 0).getD 0) ∧ ∃ X2, u = (ad, za_P S 1 (zs_ix p0) 0 none, X2, T, Y, ow, dw) ∧ zs_fv X X2 ∧ zs_B X2 ∧ zs_ok (za_P S 1 (zs_ix p0) 0 none) X2)) (za_X E b (fun En u => (En = "java/util/NoSuchElementException" ∧ zo_po S (zs_ix p0) 1 = 1 ∧ u = (ad, S, X, T, Y, ow, dw)) ∨ (En = "java/lang/IllegalStateException" ∧ zo_po S (zs_ix p0) 1 = 2 ∧ u = (ad, S, X, T, Y, ow, dw)))) (3) (18) (za_A b) := by
  refine zx_met (ccm := cX6_unpin) (maxL := 4) (ret := (some .int)) (ws' := _) (own := RX6) (lv := [(0, .ref (ad 0 0)), (1, .int p0)]) (by decide) rfl rfl rfl (by simp [lg_sl, Value.category]) ?_
  intro pg en s m below meth c hx hb hml hr hown hts hlocks htb hK hZ hb0 hG hS ls hl
  have hf135 := hts (.fieldLink RX6 135 "VideoBridge$Person" "pinned" "LVideoBridge$Person;") (by decide +kernel)
  have hf145 := hts (.fieldLink RX6 145 "VideoBridge$Person" "number" "I") (by decide +kernel)
  have hiISE := hts (.initialized "java/lang/IllegalStateException") (by decide +kernel)
  have hk51 := hts (.classLink RX6 51 "java/lang/IllegalStateException") (by decide +kernel)
  have hinX2 : ∀ w ∈ u_ws RX2 TX2 8, w ∈ wsX6_unpin := by decide +kernel
  skip
  obtain ⟨hI, hJ, hBX, hok, hRw⟩ := hC
  have hBS := hI.B
  have hc1 := hI.c
  refine lv_aload_n hx hb dX6_unpin_0 rfl (lv_at hl 0 rfl) ?_
  refine lv_iload_n hx hb dX6_unpin_1 rfl (lv_at hl 1 rfl) ?_
  refine zc_xVq (κ := 8) (As := [.int p0]) (rest := []) hK hZ hb0 hG hS hx hb hml hown hts (c_X6_personOf l hl0 p0 hJ hBX hBS) (cwV 1 hts gX6_unpin_X6_personOf rfl rfl rfl (by decide +kernel) ⟨Nat.le_of_ble_eq_true rfl, Nat.le_of_ble_eq_true rfl⟩) (za_recv (q := (RX6, TX6, 11)) hK hG 0 0 ⟨by omega, rfl⟩ rfl rfl rfl) rfl hl rfl (Nat.le_of_ble_eq_true rfl) dX6_unpin_2 ⟨Nat.le_of_ble_eq_true rfl, Nat.le_of_ble_eq_true rfl⟩ (fun En ce q9 u_2 H locs hp hG hS g1 g2 g3 => ?_) (fun r_2 u_2 H locs hp hG hS => ?_)
  · obtain ⟨rfl, h1, rfl⟩ := hp
    exact vx_out (fun x h => (htb x h).elim) hlocks g1 g2 g3 (fun t ht hW => ⟨(_, _), (Or.inl ⟨rfl, by unfold zo_po; rw [if_pos h1], rfl⟩), ⟨rfl, by show za_G E b _ t.heap; rw [ht]; exact hG⟩, hS.F ht⟩) hS.2.2 (by omega) (by omega)
  · obtain ⟨rfl, h1, rfl⟩ := hp
    refine lv_astore_n (lv' := [(2, .ref (ad 8 (zs_ix p0))), (0, .ref (ad 0 0)), (1, .int p0)]) hx hb dX6_unpin_5 rfl hl (by decide) rfl (fun ls hl => ?_)
    refine lv_aload_n hx hb dX6_unpin_6 rfl (lv_at hl 0 rfl) ?_
    refine zg_PE_pinned hx hb hts hinX2 hown hf135 hK hG (zs_ix p0) (hJ.pe h1) (r := S.2 1 (zs_ix p0) 0) rfl dX6_unpin_7 ?_
    refine zb_ostore_n (ad := ad) (κ := 8) (r := S.2 1 (zs_ix p0) 0) (lv' := [(3, za_o ad 8 (S.2 1 (zs_ix p0) 0)), (2, .ref (ad 8 (zs_ix p0))), (0, .ref (ad 0 0)), (1, .int p0)]) hx hb dX6_unpin_10 rfl hl (by decide) rfl (fun ls hl => ?_)
    refine zb_oload_n hx hb dX6_unpin_11 rfl (lv_at hl 0 rfl) ?_
    refine zb_ifnonnull (κ := 8) (r := S.2 1 (zs_ix p0) 0) (tgt := 25) hx hb dX6_unpin_12 (by decide) (fun x_1 c_12 => ?_) (fun c_12 => ?_)
    · rw [c_12] at hl
      have hv_2 : ∀ z, S.2 1 (zs_ix p0) 0 = some z → z < X.1 5 0 0 := (fun x hx => hJ.pe (hI.pi h1 hx).1)
      refine lv_aload_n hx hb dX6_unpin_25 rfl (lv_at hl 1 rfl) ?_
      refine lv_null hx hb dX6_unpin_26 ?_
      refine W.eq (g2 := F0 m 27 ls (za_o ad 8 none :: [.ref (ad 8 (zs_ix p0))])) rfl ?_
      refine zp_PE_pinned hx hb hts hinX2 hown hf135 hS hK hG (zs_ix p0) (hJ.pe h1) none dX6_unpin_27 (fun H locs hG hS => ?_)
      refine lv_aload_n hx hb dX6_unpin_30 rfl (lv_at hl 2 rfl) ?_
      refine zc_Vv (As := []) (rest := []) hK hZ hb0 hG hS hx hb hml hown hts (c_X6_chooseViews l (zs_J_c hJ rfl) (zs_I_unpin hI h1).Va hBX hBS) (cwV 0 hts gX6_unpin_X6_chooseViews rfl rfl rfl (by decide +kernel) ⟨Nat.le_of_ble_eq_true rfl, Nat.le_of_ble_eq_true rfl⟩) (za_recv (q := (RX6, TX6, 11)) hK hG 0 0 ⟨by omega, rfl⟩ rfl rfl rfl) rfl hl rfl (Nat.le_of_ble_eq_true rfl) dX6_unpin_31 ⟨Nat.le_of_ble_eq_true rfl, Nat.le_of_ble_eq_true rfl⟩ (fun u_31 H locs hp hG hS => ?_)
      obtain ⟨X2, rfl, q1, q2, q3, q4⟩ := hp
      refine lv_aload_n hx hb dX6_unpin_34 rfl (lv_at hl 0 rfl) ?_
      refine zg_PE_number hx hb hts hinX2 hown hf145 hK hG x_1 (zs_J.pe (hJ.fv q1) (hI.pi h1 c_12).1) dX6_unpin_35 ?_
      exact vx_ret (zm_iret hx hb hr hlocks hG hS (by omega) (by omega) ⟨by unfold zo_po; rw [if_neg (fun h => h h1), if_neg (by rw [c_12]; exact fun h => by cases h)], by rw [c_12]; rfl, X2, rfl, q1, q2, q3, q4⟩ dX6_unpin_38)
    · rw [c_12] at hl
      exact zt_throw (cls := "java/lang/IllegalStateException") (text := "nobody is pinned") (ik := 51) (is := 143) (ic := 55) hx hb hl0 hZ hG hS hml hl hown htb hlocks (by simp [za_exs]) (by simp [za_texts]) (by decide +kernel) hk51 hiISE (fun w h => hts w (by simp only [wsX6_unpin, List.mem_cons, List.mem_append, h, or_true, true_or])) zt_ng_ISE zt_gd_ISE dX6_unpin_15 dX6_unpin_18 dX6_unpin_19 dX6_unpin_21 dX6_unpin_24 (by decide) (by decide) (by first | (show _ + 1 ≤ _; omega) | decide) (by first | (show _ + 6 ≤ _; omega) | decide) (by omega) (by omega) (Or.inr ⟨rfl, by unfold zo_po; rw [if_neg (fun h => h h1), if_pos c_12], rfl⟩)
