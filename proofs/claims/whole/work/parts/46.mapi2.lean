set_option maxRecDepth 100000 in
set_option maxHeartbeats 4000000 in
theorem c_X7_enter (l : Launch) {E : za_E} {b : Nat} {ad : za_Ad} {S X T Y : za_S} {ow : Int64} {dw : UInt64} (p0 p1 : Int32) (hM : zs_M T Y) : Met l yX7_enter wsX7_enter ({ frames := 2, cells := 0, slots := 0, locals := 43 } : Room) (za_Pc E b (ad, S, X, T, Y, ow, dw) [.ref (ad 14 0), .int p0, .int p1]) (za_Qi E b (fun r u => ∃ T2 Y2, u = (ad, S, X, T2, Y2, ow, dw) ∧ zy Y2 (zo_en T (zs_ix p0) (zs_ix p1)) ∧ ((zo_en T (zs_ix p0) (zs_ix p1) = 0 ∧ T2 = zs_st (zs_mv T (zs_ix p0) (some (zs_ix p1))) 10 ∧ r = nI ((zs_st (zs_mv T (zs_ix p0) (some (zs_ix p1))) 10).1 5 (zs_ix p1) 0)) ∨ (zo_en T (zs_ix p0) (zs_ix p1) ≠ 0 ∧ T2 = T)))) (0) (0) (za_A b) := by
  refine zm_met (ccm := cX7_enter) (maxL := 3) (ret := (some .int)) (ws' := _) (own := RX7) (lv := [(0, .ref (ad 14 0)), (1, .int p0), (2, .int p1)]) (by decide) rfl rfl rfl (by simp [lg_sl, Value.category]) ?_
  intro pg en s m below meth c hx hb hml hr hown hts hlocks hK hZ hb0 hG hS ls hl
  have hf19 := hts (.fieldLink RX7 19 "VideoBridgeModel" "roomOf" "[I") (by decide +kernel)
  have hf29 := hts (.fieldLink RX7 29 "VideoBridgeModel" "sizes" "[I") (by decide +kernel)
  have hf66 := hts (.fieldLink RX7 66 "VideoBridgeModel" "code" "I") (by decide +kernel)
  have hinX7 : ∀ w ∈ u_ws RX7 TX7 25, w ∈ wsX7_enter := by decide +kernel
  skip
  obtain ⟨hI, hL, h6, hBY⟩ := id hM
  have hBT := hI.B
  have hc1 := hI.c
  have htI := hI.t
  refine lv_aload_n hx hb dX7_enter_0 rfl (lv_at hl 0 rfl) ?_
  refine zb_iconst (n := 0) hx hb dX7_enter_1 (by decide) ?_
  refine zp_MO_code hx hb hts hinX7 hown hf66 hS hK hG dX7_enter_2 (fun H locs hG hS => ?_)
  refine lv_aload_n hx hb dX7_enter_5 rfl (lv_at hl 0 rfl) ?_
  refine lv_iload_n hx hb dX7_enter_6 rfl (lv_at hl 1 rfl) ?_
  refine zc_Vi (As := [.int p0]) (rest := []) hK hZ hb0 hG hS hx hb hml hown hts (c_X7_isPerson l p0 hBT) (cwV 1 hts gX7_enter_X7_isPerson rfl rfl rfl (by decide +kernel) ⟨Nat.le_of_ble_eq_true rfl, Nat.le_of_ble_eq_true rfl⟩) (za_recv (q := (RX7, TX7, 25)) hK hG 14 0 ⟨by omega, rfl⟩ rfl rfl rfl) rfl hl rfl (Nat.le_of_ble_eq_true rfl) dX7_enter_7 ⟨Nat.le_of_ble_eq_true rfl, Nat.le_of_ble_eq_true rfl⟩ (fun r_7 u_7 H locs hp hG hS => ?_)
  obtain ⟨rfl, rfl⟩ := hp
  refine zb_if_ne (x := if zs_ix p0 < T.1 0 0 0 then 1 else 0) (tgt := 19) hx hb (zs_cl _) dX7_enter_10 (by decide) (fun c_10 => ?_) (fun c_10 => ?_)
  · have q_10 : zs_ix p0 < T.1 0 0 0 := zs_c1 c_10
    refine lv_aload_n hx hb dX7_enter_19 rfl (lv_at hl 0 rfl) ?_
    refine lv_iload_n hx hb dX7_enter_20 rfl (lv_at hl 2 rfl) ?_
    refine zc_Vi (As := [.int p1]) (rest := []) hK hZ hb0 hG hS hx hb hml hown hts (c_X7_isRoom l p1 hBT) (cwV 1 hts gX7_enter_X7_isRoom rfl rfl rfl (by decide +kernel) ⟨Nat.le_of_ble_eq_true rfl, Nat.le_of_ble_eq_true rfl⟩) (za_recv (q := (RX7, TX7, 25)) hK hG 14 0 ⟨by omega, rfl⟩ rfl rfl rfl) rfl hl rfl (Nat.le_of_ble_eq_true rfl) dX7_enter_21 ⟨Nat.le_of_ble_eq_true rfl, Nat.le_of_ble_eq_true rfl⟩ (fun r_21 u_21 H locs hp hG hS => ?_)
    obtain ⟨rfl, rfl⟩ := hp
    refine zb_if_ne (x := if zs_ix p1 < T.1 0 1 0 then 1 else 0) (tgt := 33) hx hb (zs_cl _) dX7_enter_24 (by decide) (fun c_24 => ?_) (fun c_24 => ?_)
    · have q_24 : zs_ix p1 < T.1 0 1 0 := zs_c1 c_24
      have hl : lv_has ls 3 [(0, .ref (ad 14 0)), (1, .int (nI (zs_ix p0))), (2, .int p1)] := by rw [zs_ixe q_10 (by omega)]; exact hl
      have hl : lv_has ls 3 [(0, .ref (ad 14 0)), (1, .int (nI (zs_ix p0))), (2, .int (nI (zs_ix p1)))] := by rw [zs_ixe q_24 (by omega)]; exact hl
      refine lv_aload_n hx hb dX7_enter_33 rfl (lv_at hl 0 rfl) ?_
      refine zg_MO_roomOf hx hb hts hinX7 hown hf19 hK hG dX7_enter_34 ?_
      refine lv_iload_n hx hb dX7_enter_37 rfl (lv_at hl 1 rfl) ?_
      refine zld_MR (r := T.2 0 (zs_ix p0) 0) hx hb hK hG (by omega) rfl dX7_enter_38 ?_
      refine lv_iload_n hx hb dX7_enter_39 rfl (lv_at hl 2 rfl) ?_
      refine zb_ecmp_ne (tgt := 49) hx hb (T.2 0 (zs_ix p0) 0) (some (zs_ix p1)) (fun x h => by have := hI.ro q_10 h; omega) (by rintro _ ⟨⟩; omega) dX7_enter_40 (by decide) (fun c_40 => ?_) (fun c_40 => ?_)
      · refine lv_aload_n hx hb dX7_enter_49 rfl (lv_at hl 0 rfl) ?_
        refine zg_MO_roomOf hx hb hts hinX7 hown hf19 hK hG dX7_enter_50 ?_
        refine lv_iload_n hx hb dX7_enter_53 rfl (lv_at hl 1 rfl) ?_
        refine zld_MR (r := T.2 0 (zs_ix p0) 0) hx hb hK hG (by omega) rfl dX7_enter_54 ?_
        refine zb_iconstm hx hb dX7_enter_55 ?_
        refine zb_ecmp_eq (tgt := 64) hx hb (T.2 0 (zs_ix p0) 0) none (fun x h => by have := hI.ro q_10 h; omega) (by rintro _ ⟨⟩) dX7_enter_56 (by decide) (fun c_56 => ?_) (fun c_56 => ?_)
        · skip
          refine lv_aload_n hx hb dX7_enter_64 rfl (lv_at hl 0 rfl) ?_
          refine lv_iload_n hx hb dX7_enter_65 rfl (lv_at hl 1 rfl) ?_
          refine lv_iload_n hx hb dX7_enter_66 rfl (lv_at hl 2 rfl) ?_
          refine zc_Vv (As := [.int (nI (zs_ix p0)), .int (nI (zs_ix p1))]) (rest := []) hK hZ hb0 hG hS hx hb hml hown hts (c_X7_goesIn l (zs_ix p0) (zs_ix p1) (by omega) (by omega) (hI.1.lt q_10 c_40)) (cwV 2 hts gX7_enter_X7_goesIn rfl rfl rfl (by decide +kernel) ⟨Nat.le_of_ble_eq_true rfl, Nat.le_of_ble_eq_true rfl⟩) (za_recv (q := (RX7, TX7, 25)) hK hG 14 0 ⟨by omega, rfl⟩ rfl rfl rfl) rfl hl rfl (Nat.le_of_ble_eq_true rfl) dX7_enter_67 ⟨Nat.le_of_ble_eq_true rfl, Nat.le_of_ble_eq_true rfl⟩ (fun u_67 H locs hp hG hS => ?_)
          subst hp
          rw [zs_gn c_56] at hG
          have hW := zs_W_mv hI.1 q_10 (q := some (zs_ix p1)) (by rintro _ ⟨⟩; exact q_24) c_40
          refine lv_aload_n hx hb dX7_enter_70 rfl (lv_at hl 0 rfl) ?_
          refine zc_Vv (As := []) (rest := []) hK hZ hb0 hG hS hx hb hml hown hts (c_X7_endsPins l hW.c.1 (fun a x e ha => by have := hW.ro ha e; have := hW.c; omega) (fun a q ha e => (hW.pi ha e).1) hW.B) (cwV 0 hts gX7_enter_X7_endsPins rfl rfl rfl (by decide +kernel) ⟨Nat.le_of_ble_eq_true rfl, Nat.le_of_ble_eq_true rfl⟩) (za_recv (q := (RX7, TX7, 25)) hK hG 14 0 ⟨by omega, rfl⟩ rfl rfl rfl) rfl hl rfl (Nat.le_of_ble_eq_true rfl) dX7_enter_71 ⟨Nat.le_of_ble_eq_true rfl, Nat.le_of_ble_eq_true rfl⟩ (fun u_71 H locs hp hG hS => ?_)
          subst hp
          refine lv_aload_n hx hb dX7_enter_74 rfl (lv_at hl 0 rfl) ?_
          refine zg_MO_sizes hx hb hts hinX7 hown hf29 hK hG dX7_enter_75 ?_
          refine lv_iload_n hx hb dX7_enter_78 rfl (lv_at hl 2 rfl) ?_
          refine zld_MZ (n := (zs_st (zs_mv T (zs_ix p0) (some (zs_ix p1))) 10).1 5 (zs_ix p1) 0) hx hb hK hG (by omega) rfl dX7_enter_79 ?_
          have hcode : zo_en T (zs_ix p0) (zs_ix p1) = 0 := by unfold zo_en; (first | rfl | ((repeat' split) <;> first | rfl | (exfalso; omega) | contradiction | (exfalso; simp_all; done)))
          exact zm_iret hx hb hr hlocks hG hS (by omega) (by omega) ⟨_, _, rfl, by rw [hcode]; exact zy_N hBY (by decide), Or.inl ⟨hcode, rfl, rfl⟩⟩ dX7_enter_80
        · obtain ⟨y_56, hy_56⟩ := Option.ne_none_iff_exists'.mp c_56
          refine lv_aload_n hx hb dX7_enter_59 rfl (lv_at hl 0 rfl) ?_
          refine lv_iload_n hx hb dX7_enter_60 rfl (lv_at hl 1 rfl) ?_
          refine zc_Vv (As := [.int (nI (zs_ix p0))]) (rest := []) hK hZ hb0 hG hS hx hb hml hown hts (c_X7_goesOut l (zs_ix p0) y_56 (zs_pl T y_56 (zs_ix p0)) (by have := q_10; have := hI.1.c; omega) (by have := hI.1.ro q_10 hy_56; have := hI.1.c; omega) hy_56 (hI.1.sz y_56) (fun j hj => by obtain ⟨x, h1, h2, -⟩ := hI.1.oc hj; exact ⟨x, h2, by have := hI.1.c; omega⟩) (hI.1.pl q_10 hy_56) (zs_fd_yes _ _ _ (hI.1.pl q_10 hy_56)) (fun j hj => zs_fd_no _ _ _ j hj (Nat.lt_trans hj (hI.1.pl q_10 hy_56))) (fun x h => by have := (hI.1.sp (hI.1.ro q_10 hy_56) h).1; have := hI.1.c; omega) (fun x h => by have := hI.1.ch (hI.1.ro q_10 hy_56) h; have := hI.1.c; omega) hI.1.B) (cwV 1 hts gX7_enter_X7_goesOut rfl rfl rfl (by decide +kernel) ⟨Nat.le_of_ble_eq_true rfl, Nat.le_of_ble_eq_true rfl⟩) (za_recv (q := (RX7, TX7, 25)) hK hG 14 0 ⟨by omega, rfl⟩ rfl rfl rfl) rfl hl rfl (Nat.le_of_ble_eq_true rfl) dX7_enter_61 ⟨Nat.le_of_ble_eq_true rfl, Nat.le_of_ble_eq_true rfl⟩ (fun u_61 H locs hp hG hS => ?_)
          subst hp
          rw [← zs_mvn hy_56] at hG
          refine lv_aload_n hx hb dX7_enter_64 rfl (lv_at hl 0 rfl) ?_
          refine lv_iload_n hx hb dX7_enter_65 rfl (lv_at hl 1 rfl) ?_
          refine lv_iload_n hx hb dX7_enter_66 rfl (lv_at hl 2 rfl) ?_
          refine zc_Vv (As := [.int (nI (zs_ix p0)), .int (nI (zs_ix p1))]) (rest := []) hK hZ hb0 hG hS hx hb hml hown hts (c_X7_goesIn l (zs_ix p0) (zs_ix p1) (by omega) (by omega) (by rw [zs_mvn_5 c_40]; exact hI.1.lt q_10 c_40)) (cwV 2 hts gX7_enter_X7_goesIn rfl rfl rfl (by decide +kernel) ⟨Nat.le_of_ble_eq_true rfl, Nat.le_of_ble_eq_true rfl⟩) (za_recv (q := (RX7, TX7, 25)) hK hG 14 0 ⟨by omega, rfl⟩ rfl rfl rfl) rfl hl rfl (Nat.le_of_ble_eq_true rfl) dX7_enter_67 ⟨Nat.le_of_ble_eq_true rfl, Nat.le_of_ble_eq_true rfl⟩ (fun u_67 H locs hp hG hS => ?_)
          subst hp
          rw [zs_gm] at hG
          have hW := zs_W_mv hI.1 q_10 (q := some (zs_ix p1)) (by rintro _ ⟨⟩; exact q_24) c_40
          refine lv_aload_n hx hb dX7_enter_70 rfl (lv_at hl 0 rfl) ?_
          refine zc_Vv (As := []) (rest := []) hK hZ hb0 hG hS hx hb hml hown hts (c_X7_endsPins l hW.c.1 (fun a x e ha => by have := hW.ro ha e; have := hW.c; omega) (fun a q ha e => (hW.pi ha e).1) hW.B) (cwV 0 hts gX7_enter_X7_endsPins rfl rfl rfl (by decide +kernel) ⟨Nat.le_of_ble_eq_true rfl, Nat.le_of_ble_eq_true rfl⟩) (za_recv (q := (RX7, TX7, 25)) hK hG 14 0 ⟨by omega, rfl⟩ rfl rfl rfl) rfl hl rfl (Nat.le_of_ble_eq_true rfl) dX7_enter_71 ⟨Nat.le_of_ble_eq_true rfl, Nat.le_of_ble_eq_true rfl⟩ (fun u_71 H locs hp hG hS => ?_)
          subst hp
          refine lv_aload_n hx hb dX7_enter_74 rfl (lv_at hl 0 rfl) ?_
          refine zg_MO_sizes hx hb hts hinX7 hown hf29 hK hG dX7_enter_75 ?_
          refine lv_iload_n hx hb dX7_enter_78 rfl (lv_at hl 2 rfl) ?_
          refine zld_MZ (n := (zs_st (zs_mv T (zs_ix p0) (some (zs_ix p1))) 10).1 5 (zs_ix p1) 0) hx hb hK hG (by omega) rfl dX7_enter_79 ?_
          have hcode : zo_en T (zs_ix p0) (zs_ix p1) = 0 := by unfold zo_en; (first | rfl | ((repeat' split) <;> first | rfl | (exfalso; omega) | contradiction | (exfalso; simp_all; done)))
          exact zm_iret hx hb hr hlocks hG hS (by omega) (by omega) ⟨_, _, rfl, by rw [hcode]; exact zy_N hBY (by decide), Or.inl ⟨hcode, rfl, rfl⟩⟩ dX7_enter_80
      · refine lv_aload_n hx hb dX7_enter_43 rfl (lv_at hl 0 rfl) ?_
        refine zb_iconst (n := 3) hx hb dX7_enter_44 (by decide) ?_
        refine zc_Vi (As := [.int (nI 3)]) (rest := []) hK hZ hb0 hG hS hx hb hml hown hts (c_X7_fails l 3) (cwV 1 hts gX7_enter_X7_fails rfl rfl rfl (by decide +kernel) ⟨Nat.le_of_ble_eq_true rfl, Nat.le_of_ble_eq_true rfl⟩) (za_recv (q := (RX7, TX7, 25)) hK hG 14 0 ⟨by omega, rfl⟩ rfl rfl rfl) rfl hl rfl (Nat.le_of_ble_eq_true rfl) dX7_enter_45 ⟨Nat.le_of_ble_eq_true rfl, Nat.le_of_ble_eq_true rfl⟩ (fun r_45 u_45 H locs hp hG hS => ?_)
        obtain ⟨rfl, rfl⟩ := hp
        have hcode : zo_en T (zs_ix p0) (zs_ix p1) = 3 := by unfold zo_en; (first | rfl | ((repeat' split) <;> first | rfl | (exfalso; omega) | contradiction | (exfalso; simp_all; done)))
        exact zm_iret hx hb hr hlocks hG hS (by omega) (by omega) ⟨_, _, rfl, by rw [hcode]; exact zy_N (zs_N_B hBY (by decide)) (by decide), Or.inr ⟨by rw [hcode]; decide, rfl⟩⟩ dX7_enter_48
    · have q_24 : ¬ (zs_ix p1 < T.1 0 1 0) := zs_c0 c_24
      refine lv_aload_n hx hb dX7_enter_27 rfl (lv_at hl 0 rfl) ?_
      refine zb_iconst (n := 2) hx hb dX7_enter_28 (by decide) ?_
      refine zc_Vi (As := [.int (nI 2)]) (rest := []) hK hZ hb0 hG hS hx hb hml hown hts (c_X7_fails l 2) (cwV 1 hts gX7_enter_X7_fails rfl rfl rfl (by decide +kernel) ⟨Nat.le_of_ble_eq_true rfl, Nat.le_of_ble_eq_true rfl⟩) (za_recv (q := (RX7, TX7, 25)) hK hG 14 0 ⟨by omega, rfl⟩ rfl rfl rfl) rfl hl rfl (Nat.le_of_ble_eq_true rfl) dX7_enter_29 ⟨Nat.le_of_ble_eq_true rfl, Nat.le_of_ble_eq_true rfl⟩ (fun r_29 u_29 H locs hp hG hS => ?_)
      obtain ⟨rfl, rfl⟩ := hp
      have hcode : zo_en T (zs_ix p0) (zs_ix p1) = 2 := by unfold zo_en; (first | rfl | ((repeat' split) <;> first | rfl | (exfalso; omega) | contradiction | (exfalso; simp_all; done)))
      exact zm_iret hx hb hr hlocks hG hS (by omega) (by omega) ⟨_, _, rfl, by rw [hcode]; exact zy_N (zs_N_B hBY (by decide)) (by decide), Or.inr ⟨by rw [hcode]; decide, rfl⟩⟩ dX7_enter_32
  · have q_10 : ¬ (zs_ix p0 < T.1 0 0 0) := zs_c0 c_10
    refine lv_aload_n hx hb dX7_enter_13 rfl (lv_at hl 0 rfl) ?_
    refine zb_iconst (n := 1) hx hb dX7_enter_14 (by decide) ?_
    refine zc_Vi (As := [.int (nI 1)]) (rest := []) hK hZ hb0 hG hS hx hb hml hown hts (c_X7_fails l 1) (cwV 1 hts gX7_enter_X7_fails rfl rfl rfl (by decide +kernel) ⟨Nat.le_of_ble_eq_true rfl, Nat.le_of_ble_eq_true rfl⟩) (za_recv (q := (RX7, TX7, 25)) hK hG 14 0 ⟨by omega, rfl⟩ rfl rfl rfl) rfl hl rfl (Nat.le_of_ble_eq_true rfl) dX7_enter_15 ⟨Nat.le_of_ble_eq_true rfl, Nat.le_of_ble_eq_true rfl⟩ (fun r_15 u_15 H locs hp hG hS => ?_)
    obtain ⟨rfl, rfl⟩ := hp
    have hcode : zo_en T (zs_ix p0) (zs_ix p1) = 1 := by unfold zo_en; (first | rfl | ((repeat' split) <;> first | rfl | (exfalso; omega) | contradiction | (exfalso; simp_all; done)))
    exact zm_iret hx hb hr hlocks hG hS (by omega) (by omega) ⟨_, _, rfl, by rw [hcode]; exact zy_N (zs_N_B hBY (by decide)) (by decide), Or.inr ⟨by rw [hcode]; decide, rfl⟩⟩ dX7_enter_18

set_option maxRecDepth 100000 in
set_option maxHeartbeats 4000000 in
theorem c_X7_leave (l : Launch) {E : za_E} {b : Nat} {ad : za_Ad} {S X T Y : za_S} {ow : Int64} {dw : UInt64} (p0 : Int32) (hM : zs_M T Y) : Met l yX7_leave wsX7_leave ({ frames := 2, cells := 0, slots := 0, locals := 43 } : Room) (za_Pc E b (ad, S, X, T, Y, ow, dw) [.ref (ad 14 0), .int p0]) (za_Qi E b (fun r u => ∃ T2 Y2, u = (ad, S, X, T2, Y2, ow, dw) ∧ zy Y2 (zo_po T (zs_ix p0) 0) ∧ ((zo_po T (zs_ix p0) 0 = 0 ∧ T2 = zs_st (zs_mv T (zs_ix p0) none) 10 ∧ r = nI ((T.2 0 (zs_ix p0) 0).getD 0)) ∨ (zo_po T (zs_ix p0) 0 ≠ 0 ∧ T2 = T)))) (0) (0) (za_A b) := by
  refine zm_met (ccm := cX7_leave) (maxL := 3) (ret := (some .int)) (ws' := _) (own := RX7) (lv := [(0, .ref (ad 14 0)), (1, .int p0)]) (by decide) rfl rfl rfl (by simp [lg_sl, Value.category]) ?_
  intro pg en s m below meth c hx hb hml hr hown hts hlocks hK hZ hb0 hG hS ls hl
  have hf19 := hts (.fieldLink RX7 19 "VideoBridgeModel" "roomOf" "[I") (by decide +kernel)
  have hf66 := hts (.fieldLink RX7 66 "VideoBridgeModel" "code" "I") (by decide +kernel)
  have hinX7 : ∀ w ∈ u_ws RX7 TX7 25, w ∈ wsX7_leave := by decide +kernel
  skip
  obtain ⟨hI, hL, h6, hBY⟩ := id hM
  have hBT := hI.B
  have hc1 := hI.c
  have htI := hI.t
  refine lv_aload_n hx hb dX7_leave_0 rfl (lv_at hl 0 rfl) ?_
  refine zb_iconst (n := 0) hx hb dX7_leave_1 (by decide) ?_
  refine zp_MO_code hx hb hts hinX7 hown hf66 hS hK hG dX7_leave_2 (fun H locs hG hS => ?_)
  refine lv_aload_n hx hb dX7_leave_5 rfl (lv_at hl 0 rfl) ?_
  refine lv_iload_n hx hb dX7_leave_6 rfl (lv_at hl 1 rfl) ?_
  refine zc_Vi (As := [.int p0]) (rest := []) hK hZ hb0 hG hS hx hb hml hown hts (c_X7_isPerson l p0 hBT) (cwV 1 hts gX7_leave_X7_isPerson rfl rfl rfl (by decide +kernel) ⟨Nat.le_of_ble_eq_true rfl, Nat.le_of_ble_eq_true rfl⟩) (za_recv (q := (RX7, TX7, 25)) hK hG 14 0 ⟨by omega, rfl⟩ rfl rfl rfl) rfl hl rfl (Nat.le_of_ble_eq_true rfl) dX7_leave_7 ⟨Nat.le_of_ble_eq_true rfl, Nat.le_of_ble_eq_true rfl⟩ (fun r_7 u_7 H locs hp hG hS => ?_)
  obtain ⟨rfl, rfl⟩ := hp
  refine zb_if_ne (x := if zs_ix p0 < T.1 0 0 0 then 1 else 0) (tgt := 19) hx hb (zs_cl _) dX7_leave_10 (by decide) (fun c_10 => ?_) (fun c_10 => ?_)
  · have q_10 : zs_ix p0 < T.1 0 0 0 := zs_c1 c_10
    have hl : lv_has ls 3 [(0, .ref (ad 14 0)), (1, .int (nI (zs_ix p0)))] := by rw [zs_ixe q_10 (by omega)]; exact hl
    refine lv_aload_n hx hb dX7_leave_19 rfl (lv_at hl 0 rfl) ?_
    refine zg_MO_roomOf hx hb hts hinX7 hown hf19 hK hG dX7_leave_20 ?_
    refine lv_iload_n hx hb dX7_leave_23 rfl (lv_at hl 1 rfl) ?_
    refine zld_MR (r := T.2 0 (zs_ix p0) 0) hx hb hK hG (by omega) rfl dX7_leave_24 ?_
    refine lv_istore_n (lv' := [(2, .int (za_enc (T.2 0 (zs_ix p0) 0))), (0, .ref (ad 14 0)), (1, .int (nI (zs_ix p0)))]) hx hb dX7_leave_25 rfl hl (by decide) rfl (fun ls hl => ?_)
    refine lv_iload_n hx hb dX7_leave_26 rfl (lv_at hl 0 rfl) ?_
    refine zb_iconstm hx hb dX7_leave_27 ?_
    refine zb_ecmp_ne (tgt := 37) hx hb (T.2 0 (zs_ix p0) 0) none (fun x h => by have := hI.ro q_10 h; omega) (by rintro _ ⟨⟩) dX7_leave_28 (by decide) (fun c_28 => ?_) (fun c_28 => ?_)
    · obtain ⟨y_28, hy_28⟩ := Option.ne_none_iff_exists'.mp c_28
      rw [hy_28] at hl
      have hl : lv_has ls 3 [(2, .int (nI y_28)), (0, .ref (ad 14 0)), (1, .int (nI (zs_ix p0)))] := hl
      refine lv_aload_n hx hb dX7_leave_37 rfl (lv_at hl 1 rfl) ?_
      refine lv_iload_n hx hb dX7_leave_38 rfl (lv_at hl 2 rfl) ?_
      refine zc_Vv (As := [.int (nI (zs_ix p0))]) (rest := []) hK hZ hb0 hG hS hx hb hml hown hts (c_X7_goesOut l (zs_ix p0) y_28 (zs_pl T y_28 (zs_ix p0)) (by have := q_10; have := hI.1.c; omega) (by have := hI.1.ro q_10 hy_28; have := hI.1.c; omega) hy_28 (hI.1.sz y_28) (fun j hj => by obtain ⟨x, h1, h2, -⟩ := hI.1.oc hj; exact ⟨x, h2, by have := hI.1.c; omega⟩) (hI.1.pl q_10 hy_28) (zs_fd_yes _ _ _ (hI.1.pl q_10 hy_28)) (fun j hj => zs_fd_no _ _ _ j hj (Nat.lt_trans hj (hI.1.pl q_10 hy_28))) (fun x h => by have := (hI.1.sp (hI.1.ro q_10 hy_28) h).1; have := hI.1.c; omega) (fun x h => by have := hI.1.ch (hI.1.ro q_10 hy_28) h; have := hI.1.c; omega) hI.1.B) (cwV 1 hts gX7_leave_X7_goesOut rfl rfl rfl (by decide +kernel) ⟨Nat.le_of_ble_eq_true rfl, Nat.le_of_ble_eq_true rfl⟩) (za_recv (q := (RX7, TX7, 25)) hK hG 14 0 ⟨by omega, rfl⟩ rfl rfl rfl) rfl hl rfl (Nat.le_of_ble_eq_true rfl) dX7_leave_39 ⟨Nat.le_of_ble_eq_true rfl, Nat.le_of_ble_eq_true rfl⟩ (fun u_39 H locs hp hG hS => ?_)
      subst hp
      rw [← zs_mvn hy_28] at hG
      have hW := zs_W_mv hI.1 q_10 (q := none) (by rintro _ ⟨⟩) (by rw [hy_28]; exact fun z => by cases z)
      refine lv_aload_n hx hb dX7_leave_42 rfl (lv_at hl 1 rfl) ?_
      refine zc_Vv (As := []) (rest := []) hK hZ hb0 hG hS hx hb hml hown hts (c_X7_endsPins l hW.c.1 (fun a x e ha => by have := hW.ro ha e; have := hW.c; omega) (fun a q ha e => (hW.pi ha e).1) hW.B) (cwV 0 hts gX7_leave_X7_endsPins rfl rfl rfl (by decide +kernel) ⟨Nat.le_of_ble_eq_true rfl, Nat.le_of_ble_eq_true rfl⟩) (za_recv (q := (RX7, TX7, 25)) hK hG 14 0 ⟨by omega, rfl⟩ rfl rfl rfl) rfl hl rfl (Nat.le_of_ble_eq_true rfl) dX7_leave_43 ⟨Nat.le_of_ble_eq_true rfl, Nat.le_of_ble_eq_true rfl⟩ (fun u_43 H locs hp hG hS => ?_)
      subst hp
      refine lv_iload_n hx hb dX7_leave_46 rfl (lv_at hl 0 rfl) ?_
      have hcode : zo_po T (zs_ix p0) 0 = 0 := by unfold zo_po; (first | rfl | ((repeat' split) <;> first | rfl | (exfalso; omega) | contradiction | (exfalso; simp_all; done)))
      exact zm_iret hx hb hr hlocks hG hS (by omega) (by omega) ⟨_, _, rfl, by rw [hcode]; exact zy_N hBY (by decide), Or.inl ⟨hcode, rfl, by rw [hy_28]; rfl⟩⟩ dX7_leave_47
    · skip
      rw [c_28] at hl
      have hl : lv_has ls 3 [(2, .int (za_enc none)), (0, .ref (ad 14 0)), (1, .int (nI (zs_ix p0)))] := hl
      refine lv_aload_n hx hb dX7_leave_31 rfl (lv_at hl 1 rfl) ?_
      refine zb_iconst (n := 2) hx hb dX7_leave_32 (by decide) ?_
      refine zc_Vi (As := [.int (nI 2)]) (rest := []) hK hZ hb0 hG hS hx hb hml hown hts (c_X7_fails l 2) (cwV 1 hts gX7_leave_X7_fails rfl rfl rfl (by decide +kernel) ⟨Nat.le_of_ble_eq_true rfl, Nat.le_of_ble_eq_true rfl⟩) (za_recv (q := (RX7, TX7, 25)) hK hG 14 0 ⟨by omega, rfl⟩ rfl rfl rfl) rfl hl rfl (Nat.le_of_ble_eq_true rfl) dX7_leave_33 ⟨Nat.le_of_ble_eq_true rfl, Nat.le_of_ble_eq_true rfl⟩ (fun r_33 u_33 H locs hp hG hS => ?_)
      obtain ⟨rfl, rfl⟩ := hp
      have hcode : zo_po T (zs_ix p0) 0 = 2 := by unfold zo_po; (first | rfl | ((repeat' split) <;> first | rfl | (exfalso; omega) | contradiction | (exfalso; simp_all; done)))
      exact zm_iret hx hb hr hlocks hG hS (by omega) (by omega) ⟨_, _, rfl, by rw [hcode]; exact zy_N (zs_N_B hBY (by decide)) (by decide), Or.inr ⟨by rw [hcode]; decide, rfl⟩⟩ dX7_leave_36
  · have q_10 : ¬ (zs_ix p0 < T.1 0 0 0) := zs_c0 c_10
    refine lv_aload_n hx hb dX7_leave_13 rfl (lv_at hl 0 rfl) ?_
    refine zb_iconst (n := 1) hx hb dX7_leave_14 (by decide) ?_
    refine zc_Vi (As := [.int (nI 1)]) (rest := []) hK hZ hb0 hG hS hx hb hml hown hts (c_X7_fails l 1) (cwV 1 hts gX7_leave_X7_fails rfl rfl rfl (by decide +kernel) ⟨Nat.le_of_ble_eq_true rfl, Nat.le_of_ble_eq_true rfl⟩) (za_recv (q := (RX7, TX7, 25)) hK hG 14 0 ⟨by omega, rfl⟩ rfl rfl rfl) rfl hl rfl (Nat.le_of_ble_eq_true rfl) dX7_leave_15 ⟨Nat.le_of_ble_eq_true rfl, Nat.le_of_ble_eq_true rfl⟩ (fun r_15 u_15 H locs hp hG hS => ?_)
    obtain ⟨rfl, rfl⟩ := hp
    have hcode : zo_po T (zs_ix p0) 0 = 1 := by unfold zo_po; (first | rfl | ((repeat' split) <;> first | rfl | (exfalso; omega) | contradiction | (exfalso; simp_all; done)))
    exact zm_iret hx hb hr hlocks hG hS (by omega) (by omega) ⟨_, _, rfl, by rw [hcode]; exact zy_N (zs_N_B hBY (by decide)) (by decide), Or.inr ⟨by rw [hcode]; decide, rfl⟩⟩ dX7_leave_18

set_option maxRecDepth 100000 in
set_option maxHeartbeats 4000000 in
theorem c_X7_split (l : Launch) {E : za_E} {b : Nat} {ad : za_Ad} {S X T Y : za_S} {ow : Int64} {dw : UInt64} (p0 : Int32) (hM : zs_M T Y) : Met l yX7_split wsX7_split ({ frames := 2, cells := 0, slots := 0, locals := 43 } : Room) (za_Pc E b (ad, S, X, T, Y, ow, dw) [.ref (ad 14 0), .int p0]) (za_Qi E b (fun r u => ∃ T2 Y2, u = (ad, S, X, T2, Y2, ow, dw) ∧ zy Y2 (zo_sp T (zs_ix p0)) ∧ ((zo_sp T (zs_ix p0) = 0 ∧ T2 = zs_st (zs_spl (zs_nr T) (zs_ix p0) (T.1 0 1 0) 9) 10 ∧ r = nI (T.1 0 1 0)) ∨ (zo_sp T (zs_ix p0) ≠ 0 ∧ T2 = T)))) (0) (0) (za_A b) := by
  refine zm_met (ccm := cX7_split) (maxL := 6) (ret := (some .int)) (ws' := _) (own := RX7) (lv := [(0, .ref (ad 14 0)), (1, .int p0)]) (by decide) rfl rfl rfl (by simp [lg_sl, Value.category]) ?_
  intro pg en s m below meth c hx hb hml hr hown hts hlocks hK hZ hb0 hG hS ls hl
  have hf29 := hts (.fieldLink RX7 29 "VideoBridgeModel" "sizes" "[I") (by decide +kernel)
  have hf32 := hts (.fieldLink RX7 32 "VideoBridgeModel" "who" "[I") (by decide +kernel)
  have hf66 := hts (.fieldLink RX7 66 "VideoBridgeModel" "code" "I") (by decide +kernel)
  have hf77 := hts (.fieldLink RX7 77 "VideoBridgeModel" "rooms" "I") (by decide +kernel)
  have hinX7 : ∀ w ∈ u_ws RX7 TX7 25, w ∈ wsX7_split := by decide +kernel
  skip
  obtain ⟨hI, hL, h6, hBY⟩ := id hM
  have hBT := hI.B
  have hc1 := hI.c
  have htI := hI.t
  refine lv_aload_n hx hb dX7_split_0 rfl (lv_at hl 0 rfl) ?_
  refine zb_iconst (n := 0) hx hb dX7_split_1 (by decide) ?_
  refine zp_MO_code hx hb hts hinX7 hown hf66 hS hK hG dX7_split_2 (fun H locs hG hS => ?_)
  refine lv_aload_n hx hb dX7_split_5 rfl (lv_at hl 0 rfl) ?_
  refine lv_iload_n hx hb dX7_split_6 rfl (lv_at hl 1 rfl) ?_
  refine zc_Vi (As := [.int p0]) (rest := []) hK hZ hb0 hG hS hx hb hml hown hts (c_X7_isRoom l p0 hBT) (cwV 1 hts gX7_split_X7_isRoom rfl rfl rfl (by decide +kernel) ⟨Nat.le_of_ble_eq_true rfl, Nat.le_of_ble_eq_true rfl⟩) (za_recv (q := (RX7, TX7, 25)) hK hG 14 0 ⟨by omega, rfl⟩ rfl rfl rfl) rfl hl rfl (Nat.le_of_ble_eq_true rfl) dX7_split_7 ⟨Nat.le_of_ble_eq_true rfl, Nat.le_of_ble_eq_true rfl⟩ (fun r_7 u_7 H locs hp hG hS => ?_)
  obtain ⟨rfl, rfl⟩ := hp
  refine zb_if_ne (x := if zs_ix p0 < T.1 0 1 0 then 1 else 0) (tgt := 19) hx hb (zs_cl _) dX7_split_10 (by decide) (fun c_10 => ?_) (fun c_10 => ?_)
  · have q_10 : zs_ix p0 < T.1 0 1 0 := zs_c1 c_10
    have hl : lv_has ls 6 [(0, .ref (ad 14 0)), (1, .int (nI (zs_ix p0)))] := by rw [zs_ixe q_10 (by omega)]; exact hl
    refine lv_aload_n hx hb dX7_split_19 rfl (lv_at hl 0 rfl) ?_
    refine zg_MO_sizes hx hb hts hinX7 hown hf29 hK hG dX7_split_20 ?_
    refine lv_iload_n hx hb dX7_split_23 rfl (lv_at hl 1 rfl) ?_
    refine zld_MZ (n := T.1 5 (zs_ix p0) 0) hx hb hK hG (by omega) rfl dX7_split_24 ?_
    refine zb_iconst (n := 2) hx hb dX7_split_25 (by decide) ?_
    refine zb_icmp_lt (x := T.1 5 (zs_ix p0) 0) (y := 2) (tgt := 38) hx hb (by have := hBT 5 (zs_ix p0) 0; omega) (by omega) dX7_split_26 (by decide) (fun c_26 => ?_) (fun c_26 => ?_)
    · refine lv_aload_n hx hb dX7_split_38 rfl (lv_at hl 0 rfl) ?_
      refine zb_iconst (n := 2) hx hb dX7_split_39 (by decide) ?_
      refine zc_Vi (As := [.int (nI 2)]) (rest := []) hK hZ hb0 hG hS hx hb hml hown hts (c_X7_fails l 2) (cwV 1 hts gX7_split_X7_fails rfl rfl rfl (by decide +kernel) ⟨Nat.le_of_ble_eq_true rfl, Nat.le_of_ble_eq_true rfl⟩) (za_recv (q := (RX7, TX7, 25)) hK hG 14 0 ⟨by omega, rfl⟩ rfl rfl rfl) rfl hl rfl (Nat.le_of_ble_eq_true rfl) dX7_split_40 ⟨Nat.le_of_ble_eq_true rfl, Nat.le_of_ble_eq_true rfl⟩ (fun r_40 u_40 H locs hp hG hS => ?_)
      obtain ⟨rfl, rfl⟩ := hp
      have hcode : zo_sp T (zs_ix p0) = 2 := by unfold zo_sp; (first | rfl | ((repeat' split) <;> first | rfl | (exfalso; omega) | contradiction | (exfalso; simp_all; done)))
      exact zm_iret hx hb hr hlocks hG hS (by omega) (by omega) ⟨_, _, rfl, by rw [hcode]; exact zy_N (zs_N_B hBY (by decide)) (by decide), Or.inr ⟨by rw [hcode]; decide, rfl⟩⟩ dX7_split_43
    · refine lv_aload_n hx hb dX7_split_29 rfl (lv_at hl 0 rfl) ?_
      refine zg_MO_rooms hx hb hts hinX7 hown hf77 hK hG (n := T.1 0 1 0) rfl dX7_split_30 ?_
      refine zb_bipush (n := 6) hx hb dX7_split_33 (by decide) ?_
      refine zb_icmp_ne (x := T.1 0 1 0) (y := 6) (tgt := 44) hx hb (by have := hBT 0 1 0; omega) (by omega) dX7_split_35 (by decide) (fun c_35 => ?_) (fun c_35 => ?_)
      · have h6r : T.1 0 1 0 < 6 := by omega
        have hNr := (zs_I_nr hI h6r).1
        have hNb : T.1 0 1 0 < (zs_nr T).1 0 1 0 := by show _ < (za_N _ _ _ _ _).1 _ _ _; rw [za_Ns]; omega
        have hNn : zs_ix p0 ≠ T.1 0 1 0 := by omega
        have hz5 := hI.sz (zs_ix p0)
        refine lv_aload_n hx hb dX7_split_44 rfl (lv_at hl 0 rfl) ?_
        refine zc_Vi (As := []) (rest := []) hK hZ hb0 hG hS hx hb hml hown hts (c_X7_makesRoom l h6r) (cwV 0 hts gX7_split_X7_makesRoom rfl rfl rfl (by decide +kernel) ⟨Nat.le_of_ble_eq_true rfl, Nat.le_of_ble_eq_true rfl⟩) (za_recv (q := (RX7, TX7, 25)) hK hG 14 0 ⟨by omega, rfl⟩ rfl rfl rfl) rfl hl rfl (Nat.le_of_ble_eq_true rfl) dX7_split_45 ⟨Nat.le_of_ble_eq_true rfl, Nat.le_of_ble_eq_true rfl⟩ (fun r_45 u_45 H locs hp hG hS => ?_)
        obtain ⟨rfl, rfl⟩ := hp
        refine lv_istore_n (lv' := [(2, .int (nI (T.1 0 1 0))), (0, .ref (ad 14 0)), (1, .int (nI (zs_ix p0)))]) hx hb dX7_split_48 rfl hl (by decide) rfl (fun ls hl => ?_)
        refine lv_aload_n hx hb dX7_split_49 rfl (lv_at hl 1 rfl) ?_
        refine zg_MO_sizes hx hb hts hinX7 hown hf29 hK hG dX7_split_50 ?_
        refine lv_iload_n hx hb dX7_split_53 rfl (lv_at hl 2 rfl) ?_
        refine zld_MZ (n := T.1 5 (zs_ix p0) 0) hx hb hK hG (by omega) rfl dX7_split_54 ?_
        refine zb_iconst (n := 2) hx hb dX7_split_55 (by decide) ?_
        refine lv_idiv hx hb dX7_split_56 (by decide) ?_
        rw [pk_div (by have := hBT 5 (zs_ix p0) 0; omega) (by decide) (by decide)]
        refine lv_istore_n (lv' := [(3, .int (nI ((T.1 5 (zs_ix p0) 0) / 2))), (2, .int (nI (T.1 0 1 0))), (0, .ref (ad 14 0)), (1, .int (nI (zs_ix p0)))]) hx hb dX7_split_57 rfl hl (by decide) rfl (fun ls hl => ?_)
        refine zb_iconst (n := 0) hx hb dX7_split_58 (by decide) ?_
        refine lv_istore (lv' := [(4, .int (nI 0)), (3, .int (nI ((T.1 5 (zs_ix p0) 0) / 2))), (2, .int (nI (T.1 0 1 0))), (0, .ref (ad 14 0)), (1, .int (nI (zs_ix p0)))]) hx hb dX7_split_59 hl (by decide) rfl (fun ls hl => ?_)
        have loop61 : ∀ (N : Nat) (k : Nat), (k ≤ T.1 5 (zs_ix p0) 0 / 2) → T.1 5 (zs_ix p0) 0 / 2 - k < N → ∀ (H : Heap) (locs : List Loc), za_G E b (ad, S, X, (zs_spl (zs_nr T) (zs_ix p0) (T.1 0 1 0) k), (za_N Y 0 0 0 0), ow, dw) H → va_S (za_A b) s.heap H locs → ∀ ls : Array Slot, lv_has ls 6 [(0, .ref (ad 14 0)), (1, .int (nI (zs_ix p0))), (2, .int (nI (T.1 0 1 0))), (3, .int (nI (T.1 5 (zs_ix p0) 0 / 2))), (4, .int (nI k))] → W pg l en ({ frames := 2, cells := 0, slots := 0, locals := 43 } : Room) s m ([.ref (ad 14 0), .int p0] : List Value).toArray below meth c H locs (0 + 0 + 0) (0 + 0 + 0) (MQ below (za_Qi E b (fun r u => ∃ T2 Y2, u = (ad, S, X, T2, Y2, ow, dw) ∧ zy Y2 (zo_sp T (zs_ix p0)) ∧ ((zo_sp T (zs_ix p0) = 0 ∧ T2 = zs_st (zs_spl (zs_nr T) (zs_ix p0) (T.1 0 1 0) 9) 10 ∧ r = nI (T.1 0 1 0)) ∨ (zo_sp T (zs_ix p0) ≠ 0 ∧ T2 = T)))) ([.ref (ad 14 0), .int p0] : List Value).toArray s (0) (0) (za_A b)) (F0 m 61 ls []) := by
          intro N
          induction N with
          | zero => intro k hk hN; exact absurd hN (Nat.not_lt_zero _)
          | succ N ih61 =>
            intro k hk hN H locs hG hS ls hl
            obtain ⟨sQ, sc, s3, -⟩ := zs_spl_f hNr hNb hNn k
            have s3 : (zs_spl (zs_nr T) (zs_ix p0) (T.1 0 1 0) k).1 5 (zs_ix p0) 0 = T.1 5 (zs_ix p0) 0 - k := s3 hk
            refine lv_iload hx hb dX7_split_61 (lv_at hl 4 rfl) ?_
            refine lv_iload_n hx hb dX7_split_63 rfl (lv_at hl 3 rfl) ?_
            refine zb_icmp_ge (x := k) (y := T.1 5 (zs_ix p0) 0 / 2) (tgt := 102) hx hb (by omega) (by have := hBT 5 (zs_ix p0) 0; omega) dX7_split_64 (by decide) (fun c_64 => ?_) (fun c_64 => ?_)
            · obtain rfl : k = T.1 5 (zs_ix p0) 0 / 2 := by omega
              rw [show (zs_spl (zs_nr T) (zs_ix p0) (T.1 0 1 0) (T.1 5 (zs_ix p0) 0 / 2)) = (zs_spl (zs_nr T) (zs_ix p0) (T.1 0 1 0) 9) from zs_spl_9 hNr hNb hNn] at hG
              obtain ⟨hW, -⟩ := zs_spl_f hNr hNb hNn 9
              refine lv_aload_n hx hb dX7_split_102 rfl (lv_at hl 0 rfl) ?_
              refine zc_Vv (As := []) (rest := []) hK hZ hb0 hG hS hx hb hml hown hts (c_X7_endsPins l hW.c.1 (fun a x e ha => by have := hW.ro ha e; have := hW.c; omega) (fun a q ha e => (hW.pi ha e).1) hW.B) (cwV 0 hts gX7_split_X7_endsPins rfl rfl rfl (by decide +kernel) ⟨Nat.le_of_ble_eq_true rfl, Nat.le_of_ble_eq_true rfl⟩) (za_recv (q := (RX7, TX7, 25)) hK hG 14 0 ⟨by omega, rfl⟩ rfl rfl rfl) rfl hl rfl (Nat.le_of_ble_eq_true rfl) dX7_split_103 ⟨Nat.le_of_ble_eq_true rfl, Nat.le_of_ble_eq_true rfl⟩ (fun u_103 H locs hp hG hS => ?_)
              subst hp
              refine lv_iload_n hx hb dX7_split_106 rfl (lv_at hl 2 rfl) ?_
              have hcode : zo_sp T (zs_ix p0) = 0 := by unfold zo_sp; (first | rfl | ((repeat' split) <;> first | rfl | (exfalso; omega) | contradiction | (exfalso; simp_all; done)))
              exact zm_iret hx hb hr hlocks hG hS (by omega) (by omega) ⟨_, _, rfl, by rw [hcode]; exact zy_N hBY (by decide), Or.inl ⟨hcode, rfl, rfl⟩⟩ dX7_split_107
            · obtain ⟨x9, e1, e2, e3, e4⟩ := zs_at_s sQ (a := (zs_ix p0)) (i := k + 1) (by rw [s3]; omega)
              have hx10 : x9 < 10 := by have := sQ.c; omega
              have sne : (zs_spl (zs_nr T) (zs_ix p0) (T.1 0 1 0) k).2 0 x9 0 ≠ some (T.1 0 1 0) := by rw [e4]; exact fun z => hNn (Option.some.inj z)
              refine lv_aload_n hx hb dX7_split_67 rfl (lv_at hl 0 rfl) ?_
              refine zg_MO_who hx hb hts hinX7 hown hf32 hK hG dX7_split_68 ?_
              refine zb_bipush (n := 10) hx hb dX7_split_71 (by decide) ?_
              refine lv_iload_n hx hb dX7_split_73 rfl (lv_at hl 1 rfl) ?_
              refine zb_imul hx hb dX7_split_74 ?_
              refine lv_iload hx hb dX7_split_75 (lv_at hl 4 rfl) ?_
              refine zb_iadd hx hb dX7_split_77 ?_
              refine zb_iconst (n := 1) hx hb dX7_split_78 (by decide) ?_
              refine zb_iadd hx hb dX7_split_79 ?_
              refine zld_MW hx hb hK hG (by omega) (zs_wh (by omega) (by omega) e2) dX7_split_80 ?_
              refine lv_istore (lv' := [(5, .int (nI x9)), (0, .ref (ad 14 0)), (1, .int (nI (zs_ix p0))), (2, .int (nI (T.1 0 1 0))), (3, .int (nI (T.1 5 (zs_ix p0) 0 / 2))), (4, .int (nI k))]) hx hb dX7_split_81 hl (by decide) rfl (fun ls hl => ?_)
              refine lv_aload_n hx hb dX7_split_83 rfl (lv_at hl 1 rfl) ?_
              refine lv_iload hx hb dX7_split_84 (lv_at hl 0 rfl) ?_
              refine zc_Vv (As := [.int (nI x9)]) (rest := []) hK hZ hb0 hG hS hx hb hml hown hts (c_X7_goesOut l x9 (zs_ix p0) (zs_pl (zs_spl (zs_nr T) (zs_ix p0) (T.1 0 1 0) k) (zs_ix p0) x9) (by have := e3; have := sQ.c; omega) (by have := sQ.ro e3 e4; have := sQ.c; omega) e4 (sQ.sz (zs_ix p0)) (fun j hj => by obtain ⟨x, h1, h2, -⟩ := sQ.oc hj; exact ⟨x, h2, by have := sQ.c; omega⟩) (sQ.pl e3 e4) (zs_fd_yes _ _ _ (sQ.pl e3 e4)) (fun j hj => zs_fd_no _ _ _ j hj (Nat.lt_trans hj (sQ.pl e3 e4))) (fun x h => by have := (sQ.sp (sQ.ro e3 e4) h).1; have := sQ.c; omega) (fun x h => by have := sQ.ch (sQ.ro e3 e4) h; have := sQ.c; omega) sQ.B) (cwV 1 hts gX7_split_X7_goesOut rfl rfl rfl (by decide +kernel) ⟨Nat.le_of_ble_eq_true rfl, Nat.le_of_ble_eq_true rfl⟩) (za_recv (q := (RX7, TX7, 25)) hK hG 14 0 ⟨by omega, rfl⟩ rfl rfl rfl) rfl hl rfl (Nat.le_of_ble_eq_true rfl) dX7_split_86 ⟨Nat.le_of_ble_eq_true rfl, Nat.le_of_ble_eq_true rfl⟩ (fun u_86 H locs hp hG hS => ?_)
              subst hp
              rw [← zs_mvn e4] at hG
              refine lv_aload_n hx hb dX7_split_89 rfl (lv_at hl 1 rfl) ?_
              refine lv_iload hx hb dX7_split_90 (lv_at hl 0 rfl) ?_
              refine lv_iload_n hx hb dX7_split_92 rfl (lv_at hl 3 rfl) ?_
              refine zc_Vv (As := [.int (nI x9), .int (nI (T.1 0 1 0))]) (rest := []) hK hZ hb0 hG hS hx hb hml hown hts (c_X7_goesIn l x9 (T.1 0 1 0) hx10 h6r (by rw [zs_mvn_5 sne]; exact sQ.lt e3 sne)) (cwV 2 hts gX7_split_X7_goesIn rfl rfl rfl (by decide +kernel) ⟨Nat.le_of_ble_eq_true rfl, Nat.le_of_ble_eq_true rfl⟩) (za_recv (q := (RX7, TX7, 25)) hK hG 14 0 ⟨by omega, rfl⟩ rfl rfl rfl) rfl hl rfl (Nat.le_of_ble_eq_true rfl) dX7_split_93 ⟨Nat.le_of_ble_eq_true rfl, Nat.le_of_ble_eq_true rfl⟩ (fun u_93 H locs hp hG hS => ?_)
              subst hp
              rw [zs_gm] at hG
              refine zb_iinc (n := 1) (k := 5) (lv' := [(4, .int (nI (k + 1))), (5, .int (nI x9)), (0, .ref (ad 14 0)), (1, .int (nI (zs_ix p0))), (2, .int (nI (T.1 0 1 0))), (3, .int (nI (T.1 5 (zs_ix p0) 0 / 2)))]) hx hb dX7_split_96 hl rfl (by decide) (by decide) rfl (fun ls hl => ?_)
              refine zb_goto (tgt := 61) hx hb dX7_split_99 (by decide) ?_
              exact ih61 (k + 1) (by omega) (by omega) _ _ (by rw [zs_spl_s e1]; exact hG) hS ls (lv_sub hl [2, 3, 4, 5, 0] rfl)
        exact loop61 (_ + 1) 0 (Nat.zero_le _) (Nat.lt_succ_self _) _ _ hG hS ls (lv_sub hl [3, 4, 2, 1, 0] rfl)
      · refine lv_aload_n hx hb dX7_split_38 rfl (lv_at hl 0 rfl) ?_
        refine zb_iconst (n := 2) hx hb dX7_split_39 (by decide) ?_
        refine zc_Vi (As := [.int (nI 2)]) (rest := []) hK hZ hb0 hG hS hx hb hml hown hts (c_X7_fails l 2) (cwV 1 hts gX7_split_X7_fails rfl rfl rfl (by decide +kernel) ⟨Nat.le_of_ble_eq_true rfl, Nat.le_of_ble_eq_true rfl⟩) (za_recv (q := (RX7, TX7, 25)) hK hG 14 0 ⟨by omega, rfl⟩ rfl rfl rfl) rfl hl rfl (Nat.le_of_ble_eq_true rfl) dX7_split_40 ⟨Nat.le_of_ble_eq_true rfl, Nat.le_of_ble_eq_true rfl⟩ (fun r_40 u_40 H locs hp hG hS => ?_)
        obtain ⟨rfl, rfl⟩ := hp
        have hcode : zo_sp T (zs_ix p0) = 2 := by unfold zo_sp; (first | rfl | ((repeat' split) <;> first | rfl | (exfalso; omega) | contradiction | (exfalso; simp_all; done)))
        exact zm_iret hx hb hr hlocks hG hS (by omega) (by omega) ⟨_, _, rfl, by rw [hcode]; exact zy_N (zs_N_B hBY (by decide)) (by decide), Or.inr ⟨by rw [hcode]; decide, rfl⟩⟩ dX7_split_43
  · have q_10 : ¬ (zs_ix p0 < T.1 0 1 0) := zs_c0 c_10
    refine lv_aload_n hx hb dX7_split_13 rfl (lv_at hl 0 rfl) ?_
    refine zb_iconst (n := 1) hx hb dX7_split_14 (by decide) ?_
    refine zc_Vi (As := [.int (nI 1)]) (rest := []) hK hZ hb0 hG hS hx hb hml hown hts (c_X7_fails l 1) (cwV 1 hts gX7_split_X7_fails rfl rfl rfl (by decide +kernel) ⟨Nat.le_of_ble_eq_true rfl, Nat.le_of_ble_eq_true rfl⟩) (za_recv (q := (RX7, TX7, 25)) hK hG 14 0 ⟨by omega, rfl⟩ rfl rfl rfl) rfl hl rfl (Nat.le_of_ble_eq_true rfl) dX7_split_15 ⟨Nat.le_of_ble_eq_true rfl, Nat.le_of_ble_eq_true rfl⟩ (fun r_15 u_15 H locs hp hG hS => ?_)
    obtain ⟨rfl, rfl⟩ := hp
    have hcode : zo_sp T (zs_ix p0) = 1 := by unfold zo_sp; (first | rfl | ((repeat' split) <;> first | rfl | (exfalso; omega) | contradiction | (exfalso; simp_all; done)))
    exact zm_iret hx hb hr hlocks hG hS (by omega) (by omega) ⟨_, _, rfl, by rw [hcode]; exact zy_N (zs_N_B hBY (by decide)) (by decide), Or.inr ⟨by rw [hcode]; decide, rfl⟩⟩ dX7_split_18

set_option maxRecDepth 100000 in
set_option maxHeartbeats 4000000 in
theorem c_X7_join (l : Launch) {E : za_E} {b : Nat} {ad : za_Ad} {S X T Y : za_S} {ow : Int64} {dw : UInt64} (p0 p1 : Int32) (hM : zs_M T Y) : Met l yX7_join wsX7_join ({ frames := 2, cells := 0, slots := 0, locals := 43 } : Room) (za_Pc E b (ad, S, X, T, Y, ow, dw) [.ref (ad 14 0), .int p0, .int p1]) (za_Qi E b (fun r u => ∃ T2 Y2, u = (ad, S, X, T2, Y2, ow, dw) ∧ zy Y2 (zo_jo T (zs_ix p0) (zs_ix p1)) ∧ ((zo_jo T (zs_ix p0) (zs_ix p1) = 0 ∧ T2 = zs_st (zs_fw (zs_jn T (zs_ix p0) (zs_ix p1) 10) (zs_ix p0) (zs_ix p1) 8) 10 ∧ r = nI ((zs_st (zs_fw (zs_jn T (zs_ix p0) (zs_ix p1) 10) (zs_ix p0) (zs_ix p1) 8) 10).1 5 (zs_ix p1) 0)) ∨ (zo_jo T (zs_ix p0) (zs_ix p1) ≠ 0 ∧ T2 = T)))) (0) (0) (za_A b) := by
  refine zm_met (ccm := cX7_join) (maxL := 4) (ret := (some .int)) (ws' := _) (own := RX7) (lv := [(0, .ref (ad 14 0)), (1, .int p0), (2, .int p1)]) (by decide) rfl rfl rfl (by simp [lg_sl, Value.category]) ?_
  intro pg en s m below meth c hx hb hml hr hown hts hlocks hK hZ hb0 hG hS ls hl
  have hf29 := hts (.fieldLink RX7 29 "VideoBridgeModel" "sizes" "[I") (by decide +kernel)
  have hf32 := hts (.fieldLink RX7 32 "VideoBridgeModel" "who" "[I") (by decide +kernel)
  have hf47 := hts (.fieldLink RX7 47 "VideoBridgeModel" "follow" "[I") (by decide +kernel)
  have hf66 := hts (.fieldLink RX7 66 "VideoBridgeModel" "code" "I") (by decide +kernel)
  have hf80 := hts (.fieldLink RX7 80 "VideoBridgeModel" "recorders" "I") (by decide +kernel)
  have hinX7 : ∀ w ∈ u_ws RX7 TX7 25, w ∈ wsX7_join := by decide +kernel
  skip
  obtain ⟨hI, hL, h6, hBY⟩ := id hM
  have hBT := hI.B
  have hc1 := hI.c
  have htI := hI.t
  refine lv_aload_n hx hb dX7_join_0 rfl (lv_at hl 0 rfl) ?_
  refine zb_iconst (n := 0) hx hb dX7_join_1 (by decide) ?_
  refine zp_MO_code hx hb hts hinX7 hown hf66 hS hK hG dX7_join_2 (fun H locs hG hS => ?_)
  refine lv_aload_n hx hb dX7_join_5 rfl (lv_at hl 0 rfl) ?_
  refine lv_iload_n hx hb dX7_join_6 rfl (lv_at hl 1 rfl) ?_
  refine zc_Vi (As := [.int p0]) (rest := []) hK hZ hb0 hG hS hx hb hml hown hts (c_X7_isRoom l p0 hBT) (cwV 1 hts gX7_join_X7_isRoom rfl rfl rfl (by decide +kernel) ⟨Nat.le_of_ble_eq_true rfl, Nat.le_of_ble_eq_true rfl⟩) (za_recv (q := (RX7, TX7, 25)) hK hG 14 0 ⟨by omega, rfl⟩ rfl rfl rfl) rfl hl rfl (Nat.le_of_ble_eq_true rfl) dX7_join_7 ⟨Nat.le_of_ble_eq_true rfl, Nat.le_of_ble_eq_true rfl⟩ (fun r_7 u_7 H locs hp hG hS => ?_)
  obtain ⟨rfl, rfl⟩ := hp
  refine zb_if_eq (x := if zs_ix p0 < T.1 0 1 0 then 1 else 0) (tgt := 21) hx hb (zs_cl _) dX7_join_10 (by decide) (fun c_10 => ?_) (fun c_10 => ?_)
  · have q_10 : ¬ (zs_ix p0 < T.1 0 1 0) := zs_c0 c_10
    refine lv_aload_n hx hb dX7_join_21 rfl (lv_at hl 0 rfl) ?_
    refine zb_iconst (n := 1) hx hb dX7_join_22 (by decide) ?_
    refine zc_Vi (As := [.int (nI 1)]) (rest := []) hK hZ hb0 hG hS hx hb hml hown hts (c_X7_fails l 1) (cwV 1 hts gX7_join_X7_fails rfl rfl rfl (by decide +kernel) ⟨Nat.le_of_ble_eq_true rfl, Nat.le_of_ble_eq_true rfl⟩) (za_recv (q := (RX7, TX7, 25)) hK hG 14 0 ⟨by omega, rfl⟩ rfl rfl rfl) rfl hl rfl (Nat.le_of_ble_eq_true rfl) dX7_join_23 ⟨Nat.le_of_ble_eq_true rfl, Nat.le_of_ble_eq_true rfl⟩ (fun r_23 u_23 H locs hp hG hS => ?_)
    obtain ⟨rfl, rfl⟩ := hp
    have hcode : zo_jo T (zs_ix p0) (zs_ix p1) = 1 := by unfold zo_jo; (first | rfl | ((repeat' split) <;> first | rfl | (exfalso; omega) | contradiction | (exfalso; simp_all; done)))
    exact zm_iret hx hb hr hlocks hG hS (by omega) (by omega) ⟨_, _, rfl, by rw [hcode]; exact zy_N (zs_N_B hBY (by decide)) (by decide), Or.inr ⟨by rw [hcode]; decide, rfl⟩⟩ dX7_join_26
  · have q_10 : zs_ix p0 < T.1 0 1 0 := zs_c1 c_10
    refine lv_aload_n hx hb dX7_join_13 rfl (lv_at hl 0 rfl) ?_
    refine lv_iload_n hx hb dX7_join_14 rfl (lv_at hl 2 rfl) ?_
    refine zc_Vi (As := [.int p1]) (rest := []) hK hZ hb0 hG hS hx hb hml hown hts (c_X7_isRoom l p1 hBT) (cwV 1 hts gX7_join_X7_isRoom rfl rfl rfl (by decide +kernel) ⟨Nat.le_of_ble_eq_true rfl, Nat.le_of_ble_eq_true rfl⟩) (za_recv (q := (RX7, TX7, 25)) hK hG 14 0 ⟨by omega, rfl⟩ rfl rfl rfl) rfl hl rfl (Nat.le_of_ble_eq_true rfl) dX7_join_15 ⟨Nat.le_of_ble_eq_true rfl, Nat.le_of_ble_eq_true rfl⟩ (fun r_15 u_15 H locs hp hG hS => ?_)
    obtain ⟨rfl, rfl⟩ := hp
    refine zb_if_ne (x := if zs_ix p1 < T.1 0 1 0 then 1 else 0) (tgt := 27) hx hb (zs_cl _) dX7_join_18 (by decide) (fun c_18 => ?_) (fun c_18 => ?_)
    · have q_18 : zs_ix p1 < T.1 0 1 0 := zs_c1 c_18
      have hl : lv_has ls 4 [(0, .ref (ad 14 0)), (1, .int (nI (zs_ix p0))), (2, .int p1)] := by rw [zs_ixe q_10 (by omega)]; exact hl
      have hl : lv_has ls 4 [(0, .ref (ad 14 0)), (1, .int (nI (zs_ix p0))), (2, .int (nI (zs_ix p1)))] := by rw [zs_ixe q_18 (by omega)]; exact hl
      refine lv_iload_n hx hb dX7_join_27 rfl (lv_at hl 1 rfl) ?_
      refine lv_iload_n hx hb dX7_join_28 rfl (lv_at hl 2 rfl) ?_
      refine zb_icmp_ne (x := (zs_ix p0)) (y := (zs_ix p1)) (tgt := 38) hx hb (by omega) (by omega) dX7_join_29 (by decide) (fun c_29 => ?_) (fun c_29 => ?_)
      · have hne : (zs_ix p0) ≠ (zs_ix p1) := c_29
        have hz5 := hI.sz (zs_ix p0)
        have loop38 : ∀ (N : Nat) (j : Nat), (j + (zs_jn T (zs_ix p0) (zs_ix p1) j).1 5 (zs_ix p0) 0 = T.1 5 (zs_ix p0) 0) → T.1 5 (zs_ix p0) 0 - j < N → ∀ (H : Heap) (locs : List Loc), za_G E b (ad, S, X, (zs_jn T (zs_ix p0) (zs_ix p1) j), (za_N Y 0 0 0 0), ow, dw) H → va_S (za_A b) s.heap H locs → ∀ ls : Array Slot, lv_has ls 4 [(0, .ref (ad 14 0)), (1, .int (nI (zs_ix p0))), (2, .int (nI (zs_ix p1)))] → W pg l en ({ frames := 2, cells := 0, slots := 0, locals := 43 } : Room) s m ([.ref (ad 14 0), .int p0, .int p1] : List Value).toArray below meth c H locs (0 + 0 + 0) (0 + 0 + 0) (MQ below (za_Qi E b (fun r u => ∃ T2 Y2, u = (ad, S, X, T2, Y2, ow, dw) ∧ zy Y2 (zo_jo T (zs_ix p0) (zs_ix p1)) ∧ ((zo_jo T (zs_ix p0) (zs_ix p1) = 0 ∧ T2 = zs_st (zs_fw (zs_jn T (zs_ix p0) (zs_ix p1) 10) (zs_ix p0) (zs_ix p1) 8) 10 ∧ r = nI ((zs_st (zs_fw (zs_jn T (zs_ix p0) (zs_ix p1) 10) (zs_ix p0) (zs_ix p1) 8) 10).1 5 (zs_ix p1) 0)) ∨ (zo_jo T (zs_ix p0) (zs_ix p1) ≠ 0 ∧ T2 = T)))) ([.ref (ad 14 0), .int p0, .int p1] : List Value).toArray s (0) (0) (za_A b)) (F0 m 38 ls []) := by
          intro N
          induction N with
          | zero => intro j hj hN; exact absurd hN (Nat.not_lt_zero _)
          | succ N ih38 =>
            intro j hj hN H locs hG hS ls hl
            obtain ⟨jQ, jc⟩ := zs_jn_f hI.1 q_18 hne j
            have jB := jQ.B 5 (zs_ix p0) 0
            refine lv_aload_n hx hb dX7_join_38 rfl (lv_at hl 0 rfl) ?_
            refine zg_MO_sizes hx hb hts hinX7 hown hf29 hK hG dX7_join_39 ?_
            refine lv_iload_n hx hb dX7_join_42 rfl (lv_at hl 1 rfl) ?_
            refine zld_MZ (n := (zs_jn T (zs_ix p0) (zs_ix p1) j).1 5 (zs_ix p0) 0) hx hb hK hG (by omega) rfl dX7_join_43 ?_
            refine zb_if_le (x := (zs_jn T (zs_ix p0) (zs_ix p1) j).1 5 (zs_ix p0) 0) (tgt := 71) hx hb (by omega) dX7_join_44 (by decide) (fun c_44 => ?_) (fun c_44 => ?_)
            · have ej := zs_jn_e (zs_at_n (S := (zs_jn T (zs_ix p0) (zs_ix p1) j)) (a := (zs_ix p0)) (i := 0) (by omega)) (10 - j)
              rw [show j + (10 - j) = 10 by omega] at ej
              rw [← ej] at hG
              obtain ⟨jQ, jc⟩ := zs_jn_f hI.1 q_18 hne 10
              have eJ : (zs_jn T (zs_ix p0) (zs_ix p1) 10).1 0 2 0 = T.1 0 2 0 := by rw [jc]
              have h2j : (zs_ix p1) < (zs_jn T (zs_ix p0) (zs_ix p1) 10).1 0 1 0 := by rw [jc]; exact q_18
              refine zb_iconst (n := 0) hx hb dX7_join_71 (by decide) ?_
              refine lv_istore_n (lv' := [(3, .int (nI 0)), (0, .ref (ad 14 0)), (1, .int (nI (zs_ix p0))), (2, .int (nI (zs_ix p1)))]) hx hb dX7_join_72 rfl hl (by decide) rfl (fun ls hl => ?_)
              have loop73 : ∀ (N : Nat) (k : Nat), (k ≤ T.1 0 2 0) → T.1 0 2 0 - k < N → ∀ (H : Heap) (locs : List Loc), za_G E b (ad, S, X, (zs_fw (zs_jn T (zs_ix p0) (zs_ix p1) 10) (zs_ix p0) (zs_ix p1) k), (za_N Y 0 0 0 0), ow, dw) H → va_S (za_A b) s.heap H locs → ∀ ls : Array Slot, lv_has ls 4 [(0, .ref (ad 14 0)), (1, .int (nI (zs_ix p0))), (2, .int (nI (zs_ix p1))), (3, .int (nI k))] → W pg l en ({ frames := 2, cells := 0, slots := 0, locals := 43 } : Room) s m ([.ref (ad 14 0), .int p0, .int p1] : List Value).toArray below meth c H locs (0 + 0 + 0) (0 + 0 + 0) (MQ below (za_Qi E b (fun r u => ∃ T2 Y2, u = (ad, S, X, T2, Y2, ow, dw) ∧ zy Y2 (zo_jo T (zs_ix p0) (zs_ix p1)) ∧ ((zo_jo T (zs_ix p0) (zs_ix p1) = 0 ∧ T2 = zs_st (zs_fw (zs_jn T (zs_ix p0) (zs_ix p1) 10) (zs_ix p0) (zs_ix p1) 8) 10 ∧ r = nI ((zs_st (zs_fw (zs_jn T (zs_ix p0) (zs_ix p1) 10) (zs_ix p0) (zs_ix p1) 8) 10).1 5 (zs_ix p1) 0)) ∨ (zo_jo T (zs_ix p0) (zs_ix p1) ≠ 0 ∧ T2 = T)))) ([.ref (ad 14 0), .int p0, .int p1] : List Value).toArray s (0) (0) (za_A b)) (F0 m 73 ls []) := by
                intro N
                induction N with
                | zero => intro k hk hN; exact absurd hN (Nat.not_lt_zero _)
                | succ N ih73 =>
                  intro k hk hN H locs hG hS ls hl
                  obtain ⟨fQ, f1, f2, f9⟩ := zs_fw_f jQ (zs_ix p0) h2j k
                  have f0 : (zs_fw (zs_jn T (zs_ix p0) (zs_ix p1) 10) (zs_ix p0) (zs_ix p1) k).1 0 2 0 = T.1 0 2 0 := by rw [f1 0 (by decide)]; exact eJ
                  have fB := fQ.B 9 k 0
                  refine lv_iload_n hx hb dX7_join_73 rfl (lv_at hl 3 rfl) ?_
                  refine lv_aload_n hx hb dX7_join_74 rfl (lv_at hl 0 rfl) ?_
                  refine zg_MO_recorders hx hb hts hinX7 hown hf80 hK hG (n := T.1 0 2 0) f0 dX7_join_75 ?_
                  refine zb_icmp_ge (x := k) (y := T.1 0 2 0) (tgt := 113) hx hb (by omega) (by have := hBT 0 2 0; omega) dX7_join_78 (by decide) (fun c_78 => ?_) (fun c_78 => ?_)
                  · obtain rfl : k = T.1 0 2 0 := by omega
                    rw [show (zs_fw (zs_jn T (zs_ix p0) (zs_ix p1) 10) (zs_ix p0) (zs_ix p1) (T.1 0 2 0)) = (zs_fw (zs_jn T (zs_ix p0) (zs_ix p1) 10) (zs_ix p0) (zs_ix p1) 8) from zs_fw_8 (by rw [eJ]) (by rw [eJ]; omega)] at hG
                    obtain ⟨hW, -⟩ := zs_fw_f jQ (zs_ix p0) h2j 8
                    refine lv_aload_n hx hb dX7_join_113 rfl (lv_at hl 0 rfl) ?_
                    refine zc_Vv (As := []) (rest := []) hK hZ hb0 hG hS hx hb hml hown hts (c_X7_endsPins l hW.c.1 (fun a x e ha => by have := hW.ro ha e; have := hW.c; omega) (fun a q ha e => (hW.pi ha e).1) hW.B) (cwV 0 hts gX7_join_X7_endsPins rfl rfl rfl (by decide +kernel) ⟨Nat.le_of_ble_eq_true rfl, Nat.le_of_ble_eq_true rfl⟩) (za_recv (q := (RX7, TX7, 25)) hK hG 14 0 ⟨by omega, rfl⟩ rfl rfl rfl) rfl hl rfl (Nat.le_of_ble_eq_true rfl) dX7_join_114 ⟨Nat.le_of_ble_eq_true rfl, Nat.le_of_ble_eq_true rfl⟩ (fun u_114 H locs hp hG hS => ?_)
                    subst hp
                    refine lv_aload_n hx hb dX7_join_117 rfl (lv_at hl 0 rfl) ?_
                    refine zg_MO_sizes hx hb hts hinX7 hown hf29 hK hG dX7_join_118 ?_
                    refine lv_iload_n hx hb dX7_join_121 rfl (lv_at hl 2 rfl) ?_
                    refine zld_MZ (n := (zs_st (zs_fw (zs_jn T (zs_ix p0) (zs_ix p1) 10) (zs_ix p0) (zs_ix p1) 8) 10).1 5 (zs_ix p1) 0) hx hb hK hG (by omega) rfl dX7_join_122 ?_
                    have hcode : zo_jo T (zs_ix p0) (zs_ix p1) = 0 := by unfold zo_jo; (first | rfl | ((repeat' split) <;> first | rfl | (exfalso; omega) | contradiction | (exfalso; simp_all; done)))
                    exact zm_iret hx hb hr hlocks hG hS (by omega) (by omega) ⟨_, _, rfl, by rw [hcode]; exact zy_N hBY (by decide), Or.inl ⟨hcode, rfl, rfl⟩⟩ dX7_join_123
                  · refine lv_aload_n hx hb dX7_join_81 rfl (lv_at hl 0 rfl) ?_
                    refine zg_MO_follow hx hb hts hinX7 hown hf47 hK hG dX7_join_82 ?_
                    refine lv_iload_n hx hb dX7_join_85 rfl (lv_at hl 3 rfl) ?_
                    refine lv_aload_n hx hb dX7_join_86 rfl (lv_at hl 0 rfl) ?_
                    refine zg_MO_follow hx hb hts hinX7 hown hf47 hK hG dX7_join_87 ?_
                    refine lv_iload_n hx hb dX7_join_90 rfl (lv_at hl 3 rfl) ?_
                    refine zld_MF (n := (zs_fw (zs_jn T (zs_ix p0) (zs_ix p1) 10) (zs_ix p0) (zs_ix p1) k).1 9 k 0) hx hb hK hG (by omega) rfl dX7_join_91 ?_
                    refine lv_iload_n hx hb dX7_join_92 rfl (lv_at hl 1 rfl) ?_
                    refine zb_icmp_ne (x := (zs_fw (zs_jn T (zs_ix p0) (zs_ix p1) 10) (zs_ix p0) (zs_ix p1) k).1 9 k 0) (y := (zs_ix p0)) (tgt := 100) hx hb (by omega) (by omega) dX7_join_93 (by decide) (fun c_93 => ?_) (fun c_93 => ?_)
                    · refine lv_aload_n hx hb dX7_join_100 rfl (lv_at hl 0 rfl) ?_
                      refine zg_MO_follow hx hb hts hinX7 hown hf47 hK hG dX7_join_101 ?_
                      refine lv_iload_n hx hb dX7_join_104 rfl (lv_at hl 3 rfl) ?_
                      refine zld_MF (n := (zs_fw (zs_jn T (zs_ix p0) (zs_ix p1) 10) (zs_ix p0) (zs_ix p1) k).1 9 k 0) hx hb hK hG (by omega) rfl dX7_join_105 ?_
                      refine zst_MF hx hb hK hG hS (by omega) dX7_join_106 (fun H locs hG hS => ?_)
                      refine zb_iinc (n := 1) (k := 3) (lv' := [(3, .int (nI (k + 1))), (0, .ref (ad 14 0)), (1, .int (nI (zs_ix p0))), (2, .int (nI (zs_ix p1)))]) hx hb dX7_join_107 hl rfl (by decide) (by decide) rfl (fun ls hl => ?_)
                      refine zb_goto (tgt := 73) hx hb dX7_join_110 (by decide) ?_
                      exact ih73 (k + 1) (by omega) (by omega) _ _ (by rw [zs_fw_n (fun z => c_93 (by rw [f9 k (Nat.le_refl _)]; exact z.2))]; rw [za_Nid _ _ _ _ _ rfl] at hG; exact hG) hS ls (lv_sub hl [1, 2, 3, 0] rfl)
                    · refine lv_iload_n hx hb dX7_join_96 rfl (lv_at hl 2 rfl) ?_
                      refine zb_goto (tgt := 106) hx hb dX7_join_97 (by decide) ?_
                      refine zst_MF hx hb hK hG hS (by omega) dX7_join_106 (fun H locs hG hS => ?_)
                      refine zb_iinc (n := 1) (k := 3) (lv' := [(3, .int (nI (k + 1))), (0, .ref (ad 14 0)), (1, .int (nI (zs_ix p0))), (2, .int (nI (zs_ix p1)))]) hx hb dX7_join_107 hl rfl (by decide) (by decide) rfl (fun ls hl => ?_)
                      refine zb_goto (tgt := 73) hx hb dX7_join_110 (by decide) ?_
                      exact ih73 (k + 1) (by omega) (by omega) _ _ (by rw [zs_fw_y ⟨by rw [eJ]; exact c_78, by rw [← f9 k (Nat.le_refl _)]; exact c_93⟩]; exact hG) hS ls (lv_sub hl [1, 2, 3, 0] rfl)
              exact loop73 (_ + 1) 0 (Nat.zero_le _) (Nat.lt_succ_self _) _ _ hG hS ls (lv_sub hl [1, 2, 3, 0] rfl)
            · obtain ⟨x9, e1, e2, e3, e4⟩ := zs_at_s jQ (a := (zs_ix p0)) (i := 0) c_44
              have hx10 : x9 < 10 := by have := jQ.c; omega
              have jne : (zs_jn T (zs_ix p0) (zs_ix p1) j).2 0 x9 0 ≠ some (zs_ix p1) := by rw [e4]; exact fun z => hne (Option.some.inj z)
              refine lv_aload_n hx hb dX7_join_47 rfl (lv_at hl 0 rfl) ?_
              refine zg_MO_who hx hb hts hinX7 hown hf32 hK hG dX7_join_48 ?_
              refine zb_bipush (n := 10) hx hb dX7_join_51 (by decide) ?_
              refine lv_iload_n hx hb dX7_join_53 rfl (lv_at hl 1 rfl) ?_
              refine zb_imul hx hb dX7_join_54 ?_
              refine zld_MW hx hb hK hG (by omega) (zs_wh (k := 0) (by omega) (by decide) e2) dX7_join_55 ?_
              refine lv_istore_n (lv' := [(3, .int (nI x9)), (0, .ref (ad 14 0)), (1, .int (nI (zs_ix p0))), (2, .int (nI (zs_ix p1)))]) hx hb dX7_join_56 rfl hl (by decide) rfl (fun ls hl => ?_)
              refine lv_aload_n hx hb dX7_join_57 rfl (lv_at hl 1 rfl) ?_
              refine lv_iload_n hx hb dX7_join_58 rfl (lv_at hl 0 rfl) ?_
              refine zc_Vv (As := [.int (nI x9)]) (rest := []) hK hZ hb0 hG hS hx hb hml hown hts (c_X7_goesOut l x9 (zs_ix p0) (zs_pl (zs_jn T (zs_ix p0) (zs_ix p1) j) (zs_ix p0) x9) (by have := e3; have := jQ.c; omega) (by have := jQ.ro e3 e4; have := jQ.c; omega) e4 (jQ.sz (zs_ix p0)) (fun j hj => by obtain ⟨x, h1, h2, -⟩ := jQ.oc hj; exact ⟨x, h2, by have := jQ.c; omega⟩) (jQ.pl e3 e4) (zs_fd_yes _ _ _ (jQ.pl e3 e4)) (fun j hj => zs_fd_no _ _ _ j hj (Nat.lt_trans hj (jQ.pl e3 e4))) (fun x h => by have := (jQ.sp (jQ.ro e3 e4) h).1; have := jQ.c; omega) (fun x h => by have := jQ.ch (jQ.ro e3 e4) h; have := jQ.c; omega) jQ.B) (cwV 1 hts gX7_join_X7_goesOut rfl rfl rfl (by decide +kernel) ⟨Nat.le_of_ble_eq_true rfl, Nat.le_of_ble_eq_true rfl⟩) (za_recv (q := (RX7, TX7, 25)) hK hG 14 0 ⟨by omega, rfl⟩ rfl rfl rfl) rfl hl rfl (Nat.le_of_ble_eq_true rfl) dX7_join_59 ⟨Nat.le_of_ble_eq_true rfl, Nat.le_of_ble_eq_true rfl⟩ (fun u_59 H locs hp hG hS => ?_)
              subst hp
              rw [← zs_mvn e4] at hG
              refine lv_aload_n hx hb dX7_join_62 rfl (lv_at hl 1 rfl) ?_
              refine lv_iload_n hx hb dX7_join_63 rfl (lv_at hl 0 rfl) ?_
              refine lv_iload_n hx hb dX7_join_64 rfl (lv_at hl 3 rfl) ?_
              refine zc_Vv (As := [.int (nI x9), .int (nI (zs_ix p1))]) (rest := []) hK hZ hb0 hG hS hx hb hml hown hts (c_X7_goesIn l x9 (zs_ix p1) hx10 (by omega) (by rw [zs_mvn_5 jne]; exact jQ.lt e3 jne)) (cwV 2 hts gX7_join_X7_goesIn rfl rfl rfl (by decide +kernel) ⟨Nat.le_of_ble_eq_true rfl, Nat.le_of_ble_eq_true rfl⟩) (za_recv (q := (RX7, TX7, 25)) hK hG 14 0 ⟨by omega, rfl⟩ rfl rfl rfl) rfl hl rfl (Nat.le_of_ble_eq_true rfl) dX7_join_65 ⟨Nat.le_of_ble_eq_true rfl, Nat.le_of_ble_eq_true rfl⟩ (fun u_65 H locs hp hG hS => ?_)
              subst hp
              rw [zs_gm] at hG
              refine zb_goto (tgt := 38) hx hb dX7_join_68 (by decide) ?_
              have e5 := zs_mv_5 e4 hne
              rw [← zs_jn_s e1] at e5
              exact ih38 (j + 1) (by rw [e5]; omega) (by omega) _ _ (by rw [zs_jn_s e1]; exact hG) hS ls (lv_sub hl [1, 2, 3] rfl)
        exact loop38 (_ + 1) 0 (by show 0 + T.1 5 _ 0 = _; omega) (Nat.lt_succ_self _) _ _ hG hS ls (lv_sub hl [0, 1, 2] rfl)
      · refine lv_aload_n hx hb dX7_join_32 rfl (lv_at hl 0 rfl) ?_
        refine zb_iconst (n := 2) hx hb dX7_join_33 (by decide) ?_
        refine zc_Vi (As := [.int (nI 2)]) (rest := []) hK hZ hb0 hG hS hx hb hml hown hts (c_X7_fails l 2) (cwV 1 hts gX7_join_X7_fails rfl rfl rfl (by decide +kernel) ⟨Nat.le_of_ble_eq_true rfl, Nat.le_of_ble_eq_true rfl⟩) (za_recv (q := (RX7, TX7, 25)) hK hG 14 0 ⟨by omega, rfl⟩ rfl rfl rfl) rfl hl rfl (Nat.le_of_ble_eq_true rfl) dX7_join_34 ⟨Nat.le_of_ble_eq_true rfl, Nat.le_of_ble_eq_true rfl⟩ (fun r_34 u_34 H locs hp hG hS => ?_)
        obtain ⟨rfl, rfl⟩ := hp
        have hcode : zo_jo T (zs_ix p0) (zs_ix p1) = 2 := by unfold zo_jo; (first | rfl | ((repeat' split) <;> first | rfl | (exfalso; omega) | contradiction | (exfalso; simp_all; done)))
        exact zm_iret hx hb hr hlocks hG hS (by omega) (by omega) ⟨_, _, rfl, by rw [hcode]; exact zy_N (zs_N_B hBY (by decide)) (by decide), Or.inr ⟨by rw [hcode]; decide, rfl⟩⟩ dX7_join_37
    · have q_18 : ¬ (zs_ix p1 < T.1 0 1 0) := zs_c0 c_18
      refine lv_aload_n hx hb dX7_join_21 rfl (lv_at hl 0 rfl) ?_
      refine zb_iconst (n := 1) hx hb dX7_join_22 (by decide) ?_
      refine zc_Vi (As := [.int (nI 1)]) (rest := []) hK hZ hb0 hG hS hx hb hml hown hts (c_X7_fails l 1) (cwV 1 hts gX7_join_X7_fails rfl rfl rfl (by decide +kernel) ⟨Nat.le_of_ble_eq_true rfl, Nat.le_of_ble_eq_true rfl⟩) (za_recv (q := (RX7, TX7, 25)) hK hG 14 0 ⟨by omega, rfl⟩ rfl rfl rfl) rfl hl rfl (Nat.le_of_ble_eq_true rfl) dX7_join_23 ⟨Nat.le_of_ble_eq_true rfl, Nat.le_of_ble_eq_true rfl⟩ (fun r_23 u_23 H locs hp hG hS => ?_)
      obtain ⟨rfl, rfl⟩ := hp
      have hcode : zo_jo T (zs_ix p0) (zs_ix p1) = 1 := by unfold zo_jo; (first | rfl | ((repeat' split) <;> first | rfl | (exfalso; omega) | contradiction | (exfalso; simp_all; done)))
      exact zm_iret hx hb hr hlocks hG hS (by omega) (by omega) ⟨_, _, rfl, by rw [hcode]; exact zy_N (zs_N_B hBY (by decide)) (by decide), Or.inr ⟨by rw [hcode]; decide, rfl⟩⟩ dX7_join_26

set_option maxRecDepth 100000 in
set_option maxHeartbeats 4000000 in
theorem c_X7_pass (l : Launch) {E : za_E} {b : Nat} {ad : za_Ad} {S X T Y : za_S} {ow : Int64} {dw : UInt64} (p0 : Int32) (hM : zs_M T Y) : Met l yX7_pass wsX7_pass ({ frames := 4, cells := 0, slots := 0, locals := 92 } : Room) (za_Pc E b (ad, S, X, T, Y, ow, dw) [.ref (ad 14 0), .int p0]) (za_Qi E b (fun r u => ∃ T2 Y2, u = (ad, S, X, T2, Y2, ow, dw) ∧ zy Y2 (zo_pass T (zs_ix p0)) ∧ ((zo_pass T (zs_ix p0) = 0 ∧ T2 = zs_pass T (zs_ix p0) ∧ r = nI ((zs_pass T (zs_ix p0)).1 7 8 0 - T.1 7 8 0)) ∨ (zo_pass T (zs_ix p0) ≠ 0 ∧ T2 = T)))) (0) (0) (za_A b) := by
  refine zm_met (ccm := cX7_pass) (maxL := 4) (ret := (some .int)) (ws' := _) (own := RX7) (lv := [(0, .ref (ad 14 0)), (1, .int p0)]) (by decide) rfl rfl rfl (by simp [lg_sl, Value.category]) ?_
  intro pg en s m below meth c hx hb hml hr hown hts hlocks hK hZ hb0 hG hS ls hl
  have hf109 := hts (.fieldLink RX7 109 "VideoBridgeModel" "turns" "I") (by decide +kernel)
  have hf121 := hts (.fieldLink RX7 121 "VideoBridgeModel" "ticks" "I") (by decide +kernel)
  have hf66 := hts (.fieldLink RX7 66 "VideoBridgeModel" "code" "I") (by decide +kernel)
  have hinX7 : ∀ w ∈ u_ws RX7 TX7 25, w ∈ wsX7_pass := by decide +kernel
  skip
  obtain ⟨hI, hL, h6, hBY⟩ := id hM
  have hBT := hI.B
  have hc1 := hI.c
  have htI := hI.t
  refine lv_aload_n hx hb dX7_pass_0 rfl (lv_at hl 0 rfl) ?_
  refine zb_iconst (n := 0) hx hb dX7_pass_1 (by decide) ?_
  refine zp_MO_code hx hb hts hinX7 hown hf66 hS hK hG dX7_pass_2 (fun H locs hG hS => ?_)
  refine lv_iload_n hx hb dX7_pass_5 rfl (lv_at hl 1 rfl) ?_
  refine zb_iconst (n := 1) hx hb dX7_pass_6 (by decide) ?_
  refine zb_bipush (n := 60) hx hb dX7_pass_7 (by decide) ?_
  refine zc_Si (As := [.int p0, .int (nI 1), .int (nI 60)]) (rest := []) hK hZ hb0 hG hS hx hb hml hown hts (c_X7_in l p0 (nI 1) (nI 60)) (cwS 3 hts gX7_pass_X7_in rfl rfl rfl (by decide +kernel) ⟨Nat.le_of_ble_eq_true rfl, Nat.le_of_ble_eq_true rfl⟩) rfl hl rfl (Nat.le_of_ble_eq_true rfl) dX7_pass_9 ⟨Nat.le_of_ble_eq_true rfl, Nat.le_of_ble_eq_true rfl⟩ (fun r_9 u_9 H locs hp hG hS => ?_)
  rw [zm_in_n (by decide) (by decide)] at hp
  obtain ⟨rfl, rfl⟩ := hp
  refine zb_if_ne (x := if 1 ≤ zs_ix p0 ∧ zs_ix p0 ≤ 60 then 1 else 0) (tgt := 21) hx hb (zs_cl _) dX7_pass_12 (by decide) (fun c_12 => ?_) (fun c_12 => ?_)
  · have q_12 : 1 ≤ zs_ix p0 ∧ zs_ix p0 ≤ 60 := zs_c1 c_12
    have hl : lv_has ls 4 [(0, .ref (ad 14 0)), (1, .int (nI (zs_ix p0)))] := by rw [zs_ixe (Nat.lt_succ_of_le q_12.2) (by omega)]; exact hl
    refine lv_aload_n hx hb dX7_pass_21 rfl (lv_at hl 0 rfl) ?_
    refine zg_MO_ticks hx hb hts hinX7 hown hf121 hK hG (n := T.1 0 3 0) rfl dX7_pass_22 ?_
    refine lv_iload_n hx hb dX7_pass_25 rfl (lv_at hl 1 rfl) ?_
    refine zb_iadd hx hb dX7_pass_26 ?_
    refine zb_sipush (n := 2000) hx hb dX7_pass_27 (by decide) ?_
    refine zb_icmp_le (x := (T.1 0 3 0) + (zs_ix p0)) (y := 2000) (tgt := 39) hx hb (by have := hBT 0 3 0; omega) (by omega) dX7_pass_30 (by decide) (fun c_30 => ?_) (fun c_30 => ?_)
    · refine lv_aload_n hx hb dX7_pass_39 rfl (lv_at hl 0 rfl) ?_
      refine zg_MO_turns hx hb hts hinX7 hown hf109 hK hG (n := T.1 7 8 0) rfl dX7_pass_40 ?_
      refine lv_istore_n (lv' := [(2, .int (nI (T.1 7 8 0))), (0, .ref (ad 14 0)), (1, .int (nI (zs_ix p0)))]) hx hb dX7_pass_43 rfl hl (by decide) rfl (fun ls hl => ?_)
      refine zb_iconst (n := 0) hx hb dX7_pass_44 (by decide) ?_
      refine lv_istore_n (lv' := [(3, .int (nI 0)), (2, .int (nI (T.1 7 8 0))), (0, .ref (ad 14 0)), (1, .int (nI (zs_ix p0)))]) hx hb dX7_pass_45 rfl hl (by decide) rfl (fun ls hl => ?_)
      have loop46 : ∀ (N : Nat) (Y1 : za_S) (i : Nat), (i ≤ (zs_ix p0)) → (zy Y1 0) → (zs_ix p0) - i < N → ∀ (H : Heap) (locs : List Loc), za_G E b (ad, S, X, (zs_pass T i), Y1, ow, dw) H → va_S (za_A b) s.heap H locs → ∀ ls : Array Slot, lv_has ls 4 [(0, .ref (ad 14 0)), (1, .int (nI (zs_ix p0))), (2, .int (nI (T.1 7 8 0))), (3, .int (nI i))] → W pg l en ({ frames := 4, cells := 0, slots := 0, locals := 92 } : Room) s m ([.ref (ad 14 0), .int p0] : List Value).toArray below meth c H locs (0 + 0) (0 + 0) (MQ below (za_Qi E b (fun r u => ∃ T2 Y2, u = (ad, S, X, T2, Y2, ow, dw) ∧ zy Y2 (zo_pass T (zs_ix p0)) ∧ ((zo_pass T (zs_ix p0) = 0 ∧ T2 = zs_pass T (zs_ix p0) ∧ r = nI ((zs_pass T (zs_ix p0)).1 7 8 0 - T.1 7 8 0)) ∨ (zo_pass T (zs_ix p0) ≠ 0 ∧ T2 = T)))) ([.ref (ad 14 0), .int p0] : List Value).toArray s (0) (0) (za_A b)) (F0 m 46 ls []) := by
        intro N
        induction N with
        | zero => intro Y1 i hi hY1 hN; exact absurd hN (Nat.not_lt_zero _)
        | succ N ih46 =>
          intro Y1 i hi hY1 hN H locs hG hS ls hl
          obtain ⟨pI, pL, p3, p7, -, -⟩ := zs_pass_f hI hL i (by omega)
          have p6 := zs_pass_6 hI hL h6 i (by omega)
          have pB := pI.B 7 8 0
          refine lv_iload_n hx hb dX7_pass_46 rfl (lv_at hl 3 rfl) ?_
          refine lv_iload_n hx hb dX7_pass_47 rfl (lv_at hl 1 rfl) ?_
          refine zb_icmp_ge (x := i) (y := (zs_ix p0)) (tgt := 61) hx hb (by omega) (by omega) dX7_pass_48 (by decide) (fun c_48 => ?_) (fun c_48 => ?_)
          · obtain rfl : i = (zs_ix p0) := by omega
            refine lv_aload_n hx hb dX7_pass_61 rfl (lv_at hl 0 rfl) ?_
            refine zg_MO_turns hx hb hts hinX7 hown hf109 hK hG (n := (zs_pass T (zs_ix p0)).1 7 8 0) rfl dX7_pass_62 ?_
            refine lv_iload_n hx hb dX7_pass_65 rfl (lv_at hl 2 rfl) ?_
            refine zb_isub hx hb (by omega) dX7_pass_66 ?_
            have hcode : zo_pass T (zs_ix p0) = 0 := by unfold zo_pass; (first | rfl | ((repeat' split) <;> first | rfl | (exfalso; omega) | contradiction | (exfalso; simp_all; done)))
            exact zm_iret hx hb hr hlocks hG hS (by omega) (by omega) ⟨_, _, rfl, by rw [hcode]; exact hY1, Or.inl ⟨hcode, rfl, rfl⟩⟩ dX7_pass_67
          · refine lv_aload_n hx hb dX7_pass_51 rfl (lv_at hl 0 rfl) ?_
            refine zc_Vv (As := []) (rest := []) hK hZ hb0 hG hS hx hb hml hown hts (c_X7_tickPasses l ⟨pI, pL, p6, hY1.2⟩ (by omega)) (cwV 0 hts gX7_pass_X7_tickPasses rfl rfl rfl (by decide +kernel) ⟨Nat.le_of_ble_eq_true rfl, Nat.le_of_ble_eq_true rfl⟩) (za_recv (q := (RX7, TX7, 25)) hK hG 14 0 ⟨by omega, rfl⟩ rfl rfl rfl) rfl hl rfl (Nat.le_of_ble_eq_true rfl) dX7_pass_52 ⟨Nat.le_of_ble_eq_true rfl, Nat.le_of_ble_eq_true rfl⟩ (fun u_52 H locs hp hG hS => ?_)
            obtain ⟨Y2, rfl, q2⟩ := hp
            refine zb_iinc (n := 1) (k := 3) (lv' := [(3, .int (nI (i + 1))), (0, .ref (ad 14 0)), (1, .int (nI (zs_ix p0))), (2, .int (nI (T.1 7 8 0)))]) hx hb dX7_pass_55 hl rfl (by decide) (by decide) rfl (fun ls hl => ?_)
            refine zb_goto (tgt := 46) hx hb dX7_pass_58 (by decide) ?_
            exact ih46 Y2 (i + 1) (by omega) ⟨q2.1.trans hY1.1, q2.2⟩ (by omega) _ _ hG hS ls (lv_sub hl [1, 2, 3, 0] rfl)
      exact loop46 (_ + 1) (za_N Y 0 0 0 0) 0 (Nat.zero_le _) (zy_N hBY (by decide)) (Nat.lt_succ_self _) _ _ hG hS ls (lv_sub hl [2, 3, 1, 0] rfl)
    · refine lv_aload_n hx hb dX7_pass_33 rfl (lv_at hl 0 rfl) ?_
      refine zb_iconst (n := 2) hx hb dX7_pass_34 (by decide) ?_
      refine zc_Vi (As := [.int (nI 2)]) (rest := []) hK hZ hb0 hG hS hx hb hml hown hts (c_X7_fails l 2) (cwV 1 hts gX7_pass_X7_fails rfl rfl rfl (by decide +kernel) ⟨Nat.le_of_ble_eq_true rfl, Nat.le_of_ble_eq_true rfl⟩) (za_recv (q := (RX7, TX7, 25)) hK hG 14 0 ⟨by omega, rfl⟩ rfl rfl rfl) rfl hl rfl (Nat.le_of_ble_eq_true rfl) dX7_pass_35 ⟨Nat.le_of_ble_eq_true rfl, Nat.le_of_ble_eq_true rfl⟩ (fun r_35 u_35 H locs hp hG hS => ?_)
      obtain ⟨rfl, rfl⟩ := hp
      have hcode : zo_pass T (zs_ix p0) = 2 := by unfold zo_pass; (first | rfl | ((repeat' split) <;> first | rfl | (exfalso; omega) | contradiction | (exfalso; simp_all; done)))
      exact zm_iret hx hb hr hlocks hG hS (by omega) (by omega) ⟨_, _, rfl, by rw [hcode]; exact zy_N (zs_N_B hBY (by decide)) (by decide), Or.inr ⟨by rw [hcode]; decide, rfl⟩⟩ dX7_pass_38
  · have q_12 : ¬ (1 ≤ zs_ix p0 ∧ zs_ix p0 ≤ 60) := zs_c0 c_12
    refine lv_aload_n hx hb dX7_pass_15 rfl (lv_at hl 0 rfl) ?_
    refine zb_iconst (n := 1) hx hb dX7_pass_16 (by decide) ?_
    refine zc_Vi (As := [.int (nI 1)]) (rest := []) hK hZ hb0 hG hS hx hb hml hown hts (c_X7_fails l 1) (cwV 1 hts gX7_pass_X7_fails rfl rfl rfl (by decide +kernel) ⟨Nat.le_of_ble_eq_true rfl, Nat.le_of_ble_eq_true rfl⟩) (za_recv (q := (RX7, TX7, 25)) hK hG 14 0 ⟨by omega, rfl⟩ rfl rfl rfl) rfl hl rfl (Nat.le_of_ble_eq_true rfl) dX7_pass_17 ⟨Nat.le_of_ble_eq_true rfl, Nat.le_of_ble_eq_true rfl⟩ (fun r_17 u_17 H locs hp hG hS => ?_)
    obtain ⟨rfl, rfl⟩ := hp
    have hcode : zo_pass T (zs_ix p0) = 1 := by unfold zo_pass; (first | rfl | ((repeat' split) <;> first | rfl | (exfalso; omega) | contradiction | (exfalso; simp_all; done)))
    exact zm_iret hx hb hr hlocks hG hS (by omega) (by omega) ⟨_, _, rfl, by rw [hcode]; exact zy_N (zs_N_B hBY (by decide)) (by decide), Or.inr ⟨by rw [hcode]; decide, rfl⟩⟩ dX7_pass_20

set_option maxRecDepth 100000 in
set_option maxHeartbeats 4000000 in
theorem c_X7_layer (l : Launch) {E : za_E} {b : Nat} {ad : za_Ad} {S X T Y : za_S} {ow : Int64} {dw : UInt64} (p0 p1 : Int32) (hM : zs_M T Y) : Met l yX7_layer wsX7_layer ({ frames := 3, cells := 0, slots := 0, locals := 71 } : Room) (za_Pc E b (ad, S, X, T, Y, ow, dw) [.ref (ad 14 0), .int p0, .int p1]) (za_Qi E b (fun r u => ∃ T2 Y2, u = (ad, S, X, T2, Y2, ow, dw) ∧ zy Y2 (zo_pp T (zs_ix p0) (zs_ix p1)) ∧ ((zo_pp T (zs_ix p0) (zs_ix p1) = 0 ∧ T2 = T ∧ r = nI ((zs_ch T (zs_ix p0)).1 (zs_ix p1))) ∨ (zo_pp T (zs_ix p0) (zs_ix p1) ≠ 0 ∧ T2 = T)))) (0) (0) (za_A b) := by
  refine zm_met (ccm := cX7_layer) (maxL := 4) (ret := (some .int)) (ws' := _) (own := RX7) (lv := [(0, .ref (ad 14 0)), (1, .int p0), (2, .int p1)]) (by decide) rfl rfl rfl (by simp [lg_sl, Value.category]) ?_
  intro pg en s m below meth c hx hb hml hr hown hts hlocks hK hZ hb0 hG hS ls hl
  have hf63 := hts (.fieldLink RX7 63 "VideoBridgeModel" "layers" "[I") (by decide +kernel)
  have hf66 := hts (.fieldLink RX7 66 "VideoBridgeModel" "code" "I") (by decide +kernel)
  have hinX7 : ∀ w ∈ u_ws RX7 TX7 25, w ∈ wsX7_layer := by decide +kernel
  skip
  obtain ⟨hI, hL, h6, hBY⟩ := id hM
  have hBT := hI.B
  have hc1 := hI.c
  have htI := hI.t
  refine lv_aload_n hx hb dX7_layer_0 rfl (lv_at hl 0 rfl) ?_
  refine lv_aload_n hx hb dX7_layer_1 rfl (lv_at hl 0 rfl) ?_
  refine lv_iload_n hx hb dX7_layer_2 rfl (lv_at hl 1 rfl) ?_
  refine zc_Vi (As := [.int p0]) (rest := [.ref (ad 14 0)]) hK hZ hb0 hG hS hx hb hml hown hts (c_X7_isPerson l p0 hBT) (cwV 1 hts gX7_layer_X7_isPerson rfl rfl rfl (by decide +kernel) ⟨Nat.le_of_ble_eq_true rfl, Nat.le_of_ble_eq_true rfl⟩) (za_recv (q := (RX7, TX7, 25)) hK hG 14 0 ⟨by omega, rfl⟩ rfl rfl rfl) rfl hl rfl (Nat.le_of_ble_eq_true rfl) dX7_layer_3 ⟨Nat.le_of_ble_eq_true rfl, Nat.le_of_ble_eq_true rfl⟩ (fun r_3 u_3 H locs hp hG hS => ?_)
  obtain ⟨rfl, rfl⟩ := hp
  refine zb_if_eq (x := if zs_ix p0 < T.1 0 0 0 then 1 else 0) (tgt := 21) hx hb (zs_cl _) dX7_layer_6 (by decide) (fun c_6 => ?_) (fun c_6 => ?_)
  · have q_6 : ¬ (zs_ix p0 < T.1 0 0 0) := zs_c0 c_6
    refine zb_iconst (n := 1) hx hb dX7_layer_21 (by decide) ?_
    refine zp_MO_code hx hb hts hinX7 hown hf66 hS hK hG dX7_layer_22 (fun H locs hG hS => ?_)
    refine lv_aload_n hx hb dX7_layer_25 rfl (lv_at hl 0 rfl) ?_
    refine zg_MO_code hx hb hts hinX7 hown hf66 hK hG (n := 1) (by simp [za_N, za_P]) dX7_layer_26 ?_
    refine zb_if_le (x := 1) (tgt := 34) hx hb (by decide) dX7_layer_29 (by decide) (fun c9 => absurd c9 (by decide)) (fun _ => ?_)
    refine zb_iconst (n := 0) hx hb dX7_layer_32 (by decide) ?_
    have hcode : zo_pp T (zs_ix p0) (zs_ix p1) = 1 := by unfold zo_pp; (first | rfl | ((repeat' split) <;> first | rfl | (exfalso; omega) | contradiction | (exfalso; simp_all; done)))
    exact zm_iret hx hb hr hlocks hG hS (by omega) (by omega) ⟨_, _, rfl, by rw [hcode]; exact zy_N hBY (by decide), Or.inr ⟨by rw [hcode]; decide, rfl⟩⟩ dX7_layer_33
  · have q_6 : zs_ix p0 < T.1 0 0 0 := zs_c1 c_6
    refine lv_aload_n hx hb dX7_layer_9 rfl (lv_at hl 0 rfl) ?_
    refine lv_iload_n hx hb dX7_layer_10 rfl (lv_at hl 2 rfl) ?_
    refine zc_Vi (As := [.int p1]) (rest := [.ref (ad 14 0)]) hK hZ hb0 hG hS hx hb hml hown hts (c_X7_isPerson l p1 hBT) (cwV 1 hts gX7_layer_X7_isPerson rfl rfl rfl (by decide +kernel) ⟨Nat.le_of_ble_eq_true rfl, Nat.le_of_ble_eq_true rfl⟩) (za_recv (q := (RX7, TX7, 25)) hK hG 14 0 ⟨by omega, rfl⟩ rfl rfl rfl) rfl hl rfl (Nat.le_of_ble_eq_true rfl) dX7_layer_11 ⟨Nat.le_of_ble_eq_true rfl, Nat.le_of_ble_eq_true rfl⟩ (fun r_11 u_11 H locs hp hG hS => ?_)
    obtain ⟨rfl, rfl⟩ := hp
    refine zb_if_eq (x := if zs_ix p1 < T.1 0 0 0 then 1 else 0) (tgt := 21) hx hb (zs_cl _) dX7_layer_14 (by decide) (fun c_14 => ?_) (fun c_14 => ?_)
    · have q_14 : ¬ (zs_ix p1 < T.1 0 0 0) := zs_c0 c_14
      refine zb_iconst (n := 1) hx hb dX7_layer_21 (by decide) ?_
      refine zp_MO_code hx hb hts hinX7 hown hf66 hS hK hG dX7_layer_22 (fun H locs hG hS => ?_)
      refine lv_aload_n hx hb dX7_layer_25 rfl (lv_at hl 0 rfl) ?_
      refine zg_MO_code hx hb hts hinX7 hown hf66 hK hG (n := 1) (by simp [za_N, za_P]) dX7_layer_26 ?_
      refine zb_if_le (x := 1) (tgt := 34) hx hb (by decide) dX7_layer_29 (by decide) (fun c9 => absurd c9 (by decide)) (fun _ => ?_)
      refine zb_iconst (n := 0) hx hb dX7_layer_32 (by decide) ?_
      have hcode : zo_pp T (zs_ix p0) (zs_ix p1) = 1 := by unfold zo_pp; (first | rfl | ((repeat' split) <;> first | rfl | (exfalso; omega) | contradiction | (exfalso; simp_all; done)))
      exact zm_iret hx hb hr hlocks hG hS (by omega) (by omega) ⟨_, _, rfl, by rw [hcode]; exact zy_N hBY (by decide), Or.inr ⟨by rw [hcode]; decide, rfl⟩⟩ dX7_layer_33
    · have q_14 : zs_ix p1 < T.1 0 0 0 := zs_c1 c_14
      refine zb_iconst (n := 0) hx hb dX7_layer_17 (by decide) ?_
      refine zb_goto (tgt := 22) hx hb dX7_layer_18 (by decide) ?_
      refine zp_MO_code hx hb hts hinX7 hown hf66 hS hK hG dX7_layer_22 (fun H locs hG hS => ?_)
      refine lv_aload_n hx hb dX7_layer_25 rfl (lv_at hl 0 rfl) ?_
      refine zg_MO_code hx hb hts hinX7 hown hf66 hK hG (n := 0) (by simp [za_N, za_P]) dX7_layer_26 ?_
      refine zb_if_le (x := 0) (tgt := 34) hx hb (by decide) dX7_layer_29 (by decide) (fun _ => ?_) (fun c9 => absurd c9 (by decide))
      have hl : lv_has ls 4 [(0, .ref (ad 14 0)), (1, .int (nI (zs_ix p0))), (2, .int p1)] := by rw [zs_ixe q_6 (by omega)]; exact hl
      have hl : lv_has ls 4 [(0, .ref (ad 14 0)), (1, .int (nI (zs_ix p0))), (2, .int (nI (zs_ix p1)))] := by rw [zs_ixe q_14 (by omega)]; exact hl
      refine lv_aload_n hx hb dX7_layer_34 rfl (lv_at hl 0 rfl) ?_
      refine lv_iload_n hx hb dX7_layer_35 rfl (lv_at hl 1 rfl) ?_
      refine zc_Vi (As := [.int (nI (zs_ix p0))]) (rest := []) hK hZ hb0 hG hS hx hb hml hown hts (c_X7_uses l (zs_ix p0) hI q_6 (zs_N_B hBY (by decide))) (cwV 1 hts gX7_layer_X7_uses rfl rfl rfl (by decide +kernel) ⟨Nat.le_of_ble_eq_true rfl, Nat.le_of_ble_eq_true rfl⟩) (za_recv (q := (RX7, TX7, 25)) hK hG 14 0 ⟨by omega, rfl⟩ rfl rfl rfl) rfl hl rfl (Nat.le_of_ble_eq_true rfl) dX7_layer_36 ⟨Nat.le_of_ble_eq_true rfl, Nat.le_of_ble_eq_true rfl⟩ (fun r_36 u_36 H locs hp hG hS => ?_)
      obtain ⟨rfl, Y2, rfl, q2, q3⟩ := hp
      have hus := zs_us_le T (zs_ix p0)
      refine lv_istore_n (lv' := [(3, .int (nI (zs_us T (zs_ix p0)))), (0, .ref (ad 14 0)), (1, .int (nI (zs_ix p0))), (2, .int (nI (zs_ix p1)))]) hx hb dX7_layer_39 rfl hl (by decide) rfl (fun ls hl => ?_)
      refine lv_iload_n hx hb dX7_layer_40 rfl (lv_at hl 0 rfl) ?_
      refine zb_if_ne (x := zs_us T (zs_ix p0)) (tgt := 48) hx hb (by omega) dX7_layer_41 (by decide) (fun c_41 => ?_) (fun c_41 => ?_)
      · refine lv_aload_n hx hb dX7_layer_48 rfl (lv_at hl 1 rfl) ?_
        refine zg_MO_layers hx hb hts hinX7 hown hf63 hK hG dX7_layer_49 ?_
        refine lv_iload_n hx hb dX7_layer_52 rfl (lv_at hl 3 rfl) ?_
        refine zld_MY (n := (zs_ch T (zs_ix p0)).1 (zs_ix p1)) hx hb hK hG (by omega) (q3 _ (by omega)) dX7_layer_53 ?_
        have hcode : zo_pp T (zs_ix p0) (zs_ix p1) = 0 := by unfold zo_pp; (first | rfl | ((repeat' split) <;> first | rfl | (exfalso; omega) | contradiction | (exfalso; simp_all; done)))
        exact zm_iret hx hb hr hlocks hG hS (by omega) (by omega) ⟨_, _, rfl, by rw [hcode]; exact ⟨q2.1.trans (za_Ns _ _ _ _ _), q2.2⟩, Or.inl ⟨hcode, rfl, by first | rfl | (rw [zs_us_0 c_41 _ (by omega)]; done)⟩⟩ dX7_layer_54
      · refine zb_iconst (n := 0) hx hb dX7_layer_44 (by decide) ?_
        refine zb_goto (tgt := 54) hx hb dX7_layer_45 (by decide) ?_
        have hcode : zo_pp T (zs_ix p0) (zs_ix p1) = 0 := by unfold zo_pp; (first | rfl | ((repeat' split) <;> first | rfl | (exfalso; omega) | contradiction | (exfalso; simp_all; done)))
        exact zm_iret hx hb hr hlocks hG hS (by omega) (by omega) ⟨_, _, rfl, by rw [hcode]; exact ⟨q2.1.trans (za_Ns _ _ _ _ _), q2.2⟩, Or.inl ⟨hcode, rfl, by first | rfl | (rw [zs_us_0 c_41 _ (by omega)]; done)⟩⟩ dX7_layer_54

set_option maxRecDepth 100000 in
set_option maxHeartbeats 4000000 in
theorem c_X7_layerAnew (l : Launch) {E : za_E} {b : Nat} {ad : za_Ad} {S X T Y : za_S} {ow : Int64} {dw : UInt64} (p0 p1 : Int32) (hM : zs_M T Y) : Met l yX7_layerAnew wsX7_layerAnew ({ frames := 4, cells := 0, slots := 0, locals := 94 } : Room) (za_Pc E b (ad, S, X, T, Y, ow, dw) [.ref (ad 14 0), .int p0, .int p1]) (za_Qi E b (fun r u => ∃ T2 Y2, u = (ad, S, X, T2, Y2, ow, dw) ∧ zy Y2 (zo_pp T (zs_ix p0) (zs_ix p1)) ∧ ((zo_pp T (zs_ix p0) (zs_ix p1) = 0 ∧ T2 = T ∧ r = nI ((zs_ch T (zs_ix p0)).1 (zs_ix p1))) ∨ (zo_pp T (zs_ix p0) (zs_ix p1) ≠ 0 ∧ T2 = T)))) (0) (0) (za_A b) := by
  refine zm_met (ccm := cX7_layerAnew) (maxL := 3) (ret := (some .int)) (ws' := _) (own := RX7) (lv := [(0, .ref (ad 14 0)), (1, .int p0), (2, .int p1)]) (by decide) rfl rfl rfl (by simp [lg_sl, Value.category]) ?_
  intro pg en s m below meth c hx hb hml hr hown hts hlocks hK hZ hb0 hG hS ls hl
  skip
  obtain ⟨hI, hL, h6, hBY⟩ := id hM
  have hBT := hI.B
  have hc1 := hI.c
  have htI := hI.t
  refine lv_aload_n hx hb dX7_layerAnew_0 rfl (lv_at hl 0 rfl) ?_
  refine lv_iload_n hx hb dX7_layerAnew_1 rfl (lv_at hl 1 rfl) ?_
  refine lv_iload_n hx hb dX7_layerAnew_2 rfl (lv_at hl 2 rfl) ?_
  refine zc_Vi (As := [.int p0, .int p1]) (rest := []) hK hZ hb0 hG hS hx hb hml hown hts (c_X7_layer l p0 p1 hM) (cwV 2 hts gX7_layerAnew_X7_layer rfl rfl rfl (by decide +kernel) ⟨Nat.le_of_ble_eq_true rfl, Nat.le_of_ble_eq_true rfl⟩) (za_recv (q := (RX7, TX7, 25)) hK hG 14 0 ⟨by omega, rfl⟩ rfl rfl rfl) rfl hl rfl (Nat.le_of_ble_eq_true rfl) dX7_layerAnew_3 ⟨Nat.le_of_ble_eq_true rfl, Nat.le_of_ble_eq_true rfl⟩ (fun r_3 u_3 H locs hp hG hS => ?_)
  obtain ⟨T2, Y2, rfl, g1, g2⟩ := hp
  exact zm_iret hx hb hr hlocks hG hS (by omega) (by omega) ⟨T2, Y2, rfl, g1, g2⟩ dX7_layerAnew_6

set_option maxRecDepth 100000 in
set_option maxHeartbeats 4000000 in
theorem c_X7_used (l : Launch) {E : za_E} {b : Nat} {ad : za_Ad} {S X T Y : za_S} {ow : Int64} {dw : UInt64} (p0 : Int32) (hM : zs_M T Y) : Met l yX7_used wsX7_used ({ frames := 3, cells := 0, slots := 0, locals := 71 } : Room) (za_Pc E b (ad, S, X, T, Y, ow, dw) [.ref (ad 14 0), .int p0]) (za_Qi E b (fun r u => ∃ T2 Y2, u = (ad, S, X, T2, Y2, ow, dw) ∧ zy Y2 (zo_p T (zs_ix p0)) ∧ ((zo_p T (zs_ix p0) = 0 ∧ T2 = T ∧ r = nI (zs_us T (zs_ix p0))) ∨ (zo_p T (zs_ix p0) ≠ 0 ∧ T2 = T)))) (0) (0) (za_A b) := by
  refine zm_met (ccm := cX7_used) (maxL := 2) (ret := (some .int)) (ws' := _) (own := RX7) (lv := [(0, .ref (ad 14 0)), (1, .int p0)]) (by decide) rfl rfl rfl (by simp [lg_sl, Value.category]) ?_
  intro pg en s m below meth c hx hb hml hr hown hts hlocks hK hZ hb0 hG hS ls hl
  have hf66 := hts (.fieldLink RX7 66 "VideoBridgeModel" "code" "I") (by decide +kernel)
  have hinX7 : ∀ w ∈ u_ws RX7 TX7 25, w ∈ wsX7_used := by decide +kernel
  skip
  obtain ⟨hI, hL, h6, hBY⟩ := id hM
  have hBT := hI.B
  have hc1 := hI.c
  have htI := hI.t
  refine lv_aload_n hx hb dX7_used_0 rfl (lv_at hl 0 rfl) ?_
  refine zb_iconst (n := 0) hx hb dX7_used_1 (by decide) ?_
  refine zp_MO_code hx hb hts hinX7 hown hf66 hS hK hG dX7_used_2 (fun H locs hG hS => ?_)
  refine lv_aload_n hx hb dX7_used_5 rfl (lv_at hl 0 rfl) ?_
  refine lv_iload_n hx hb dX7_used_6 rfl (lv_at hl 1 rfl) ?_
  refine zc_Vi (As := [.int p0]) (rest := []) hK hZ hb0 hG hS hx hb hml hown hts (c_X7_isPerson l p0 hBT) (cwV 1 hts gX7_used_X7_isPerson rfl rfl rfl (by decide +kernel) ⟨Nat.le_of_ble_eq_true rfl, Nat.le_of_ble_eq_true rfl⟩) (za_recv (q := (RX7, TX7, 25)) hK hG 14 0 ⟨by omega, rfl⟩ rfl rfl rfl) rfl hl rfl (Nat.le_of_ble_eq_true rfl) dX7_used_7 ⟨Nat.le_of_ble_eq_true rfl, Nat.le_of_ble_eq_true rfl⟩ (fun r_7 u_7 H locs hp hG hS => ?_)
  obtain ⟨rfl, rfl⟩ := hp
  refine zb_if_eq (x := if zs_ix p0 < T.1 0 0 0 then 1 else 0) (tgt := 21) hx hb (zs_cl _) dX7_used_10 (by decide) (fun c_10 => ?_) (fun c_10 => ?_)
  · have q_10 : ¬ (zs_ix p0 < T.1 0 0 0) := zs_c0 c_10
    refine lv_aload_n hx hb dX7_used_21 rfl (lv_at hl 0 rfl) ?_
    refine zb_iconst (n := 1) hx hb dX7_used_22 (by decide) ?_
    refine zc_Vi (As := [.int (nI 1)]) (rest := []) hK hZ hb0 hG hS hx hb hml hown hts (c_X7_fails l 1) (cwV 1 hts gX7_used_X7_fails rfl rfl rfl (by decide +kernel) ⟨Nat.le_of_ble_eq_true rfl, Nat.le_of_ble_eq_true rfl⟩) (za_recv (q := (RX7, TX7, 25)) hK hG 14 0 ⟨by omega, rfl⟩ rfl rfl rfl) rfl hl rfl (Nat.le_of_ble_eq_true rfl) dX7_used_23 ⟨Nat.le_of_ble_eq_true rfl, Nat.le_of_ble_eq_true rfl⟩ (fun r_23 u_23 H locs hp hG hS => ?_)
    obtain ⟨rfl, rfl⟩ := hp
    have hcode : zo_p T (zs_ix p0) = 1 := by unfold zo_p; (first | rfl | ((repeat' split) <;> first | rfl | (exfalso; omega) | contradiction | (exfalso; simp_all; done)))
    exact zm_iret hx hb hr hlocks hG hS (by omega) (by omega) ⟨_, _, rfl, by rw [hcode]; exact zy_N (zs_N_B hBY (by decide)) (by decide), Or.inr ⟨by rw [hcode]; decide, rfl⟩⟩ dX7_used_26
  · have q_10 : zs_ix p0 < T.1 0 0 0 := zs_c1 c_10
    have hl : lv_has ls 2 [(0, .ref (ad 14 0)), (1, .int (nI (zs_ix p0)))] := by rw [zs_ixe q_10 (by omega)]; exact hl
    refine lv_aload_n hx hb dX7_used_13 rfl (lv_at hl 0 rfl) ?_
    refine lv_iload_n hx hb dX7_used_14 rfl (lv_at hl 1 rfl) ?_
    refine zc_Vi (As := [.int (nI (zs_ix p0))]) (rest := []) hK hZ hb0 hG hS hx hb hml hown hts (c_X7_uses l (zs_ix p0) hI q_10 (zs_N_B hBY (by decide))) (cwV 1 hts gX7_used_X7_uses rfl rfl rfl (by decide +kernel) ⟨Nat.le_of_ble_eq_true rfl, Nat.le_of_ble_eq_true rfl⟩) (za_recv (q := (RX7, TX7, 25)) hK hG 14 0 ⟨by omega, rfl⟩ rfl rfl rfl) rfl hl rfl (Nat.le_of_ble_eq_true rfl) dX7_used_15 ⟨Nat.le_of_ble_eq_true rfl, Nat.le_of_ble_eq_true rfl⟩ (fun r_15 u_15 H locs hp hG hS => ?_)
    obtain ⟨rfl, Y2, rfl, q2, q3⟩ := hp
    have hus := zs_us_le T (zs_ix p0)
    refine zb_goto (tgt := 26) hx hb dX7_used_18 (by decide) ?_
    have hcode : zo_p T (zs_ix p0) = 0 := by unfold zo_p; (first | rfl | ((repeat' split) <;> first | rfl | (exfalso; omega) | contradiction | (exfalso; simp_all; done)))
    exact zm_iret hx hb hr hlocks hG hS (by omega) (by omega) ⟨_, _, rfl, by rw [hcode]; exact ⟨q2.1.trans (za_Ns _ _ _ _ _), q2.2⟩, Or.inl ⟨hcode, rfl, rfl⟩⟩ dX7_used_26

set_option maxRecDepth 100000 in
set_option maxHeartbeats 4000000 in
theorem c_X7_viewers (l : Launch) {E : za_E} {b : Nat} {ad : za_Ad} {S X T Y : za_S} {ow : Int64} {dw : UInt64} (p0 : Int32) (hM : zs_M T Y) : Met l yX7_viewers wsX7_viewers ({ frames := 3, cells := 0, slots := 0, locals := 71 } : Room) (za_Pc E b (ad, S, X, T, Y, ow, dw) [.ref (ad 14 0), .int p0]) (za_Qi E b (fun r u => ∃ T2 Y2, u = (ad, S, X, T2, Y2, ow, dw) ∧ zy Y2 (zo_p T (zs_ix p0)) ∧ ((zo_p T (zs_ix p0) = 0 ∧ T2 = T ∧ r = nI (zs_vc T (zs_ix p0) 10)) ∨ (zo_p T (zs_ix p0) ≠ 0 ∧ T2 = T)))) (0) (0) (za_A b) := by
  refine zm_met (ccm := cX7_viewers) (maxL := 4) (ret := (some .int)) (ws' := _) (own := RX7) (lv := [(0, .ref (ad 14 0)), (1, .int p0)]) (by decide) rfl rfl rfl (by simp [lg_sl, Value.category]) ?_
  intro pg en s m below meth c hx hb hml hr hown hts hlocks hK hZ hb0 hG hS ls hl
  have hf63 := hts (.fieldLink RX7 63 "VideoBridgeModel" "layers" "[I") (by decide +kernel)
  have hf66 := hts (.fieldLink RX7 66 "VideoBridgeModel" "code" "I") (by decide +kernel)
  have hf70 := hts (.fieldLink RX7 70 "VideoBridgeModel" "people" "I") (by decide +kernel)
  have hinX7 : ∀ w ∈ u_ws RX7 TX7 25, w ∈ wsX7_viewers := by decide +kernel
  skip
  obtain ⟨hI, hL, h6, hBY⟩ := id hM
  have hBT := hI.B
  have hc1 := hI.c
  have htI := hI.t
  refine lv_aload_n hx hb dX7_viewers_0 rfl (lv_at hl 0 rfl) ?_
  refine zb_iconst (n := 0) hx hb dX7_viewers_1 (by decide) ?_
  refine zp_MO_code hx hb hts hinX7 hown hf66 hS hK hG dX7_viewers_2 (fun H locs hG hS => ?_)
  refine lv_aload_n hx hb dX7_viewers_5 rfl (lv_at hl 0 rfl) ?_
  refine lv_iload_n hx hb dX7_viewers_6 rfl (lv_at hl 1 rfl) ?_
  refine zc_Vi (As := [.int p0]) (rest := []) hK hZ hb0 hG hS hx hb hml hown hts (c_X7_isPerson l p0 hBT) (cwV 1 hts gX7_viewers_X7_isPerson rfl rfl rfl (by decide +kernel) ⟨Nat.le_of_ble_eq_true rfl, Nat.le_of_ble_eq_true rfl⟩) (za_recv (q := (RX7, TX7, 25)) hK hG 14 0 ⟨by omega, rfl⟩ rfl rfl rfl) rfl hl rfl (Nat.le_of_ble_eq_true rfl) dX7_viewers_7 ⟨Nat.le_of_ble_eq_true rfl, Nat.le_of_ble_eq_true rfl⟩ (fun r_7 u_7 H locs hp hG hS => ?_)
  obtain ⟨rfl, rfl⟩ := hp
  refine zb_if_ne (x := if zs_ix p0 < T.1 0 0 0 then 1 else 0) (tgt := 19) hx hb (zs_cl _) dX7_viewers_10 (by decide) (fun c_10 => ?_) (fun c_10 => ?_)
  · have q_10 : zs_ix p0 < T.1 0 0 0 := zs_c1 c_10
    have hl : lv_has ls 4 [(0, .ref (ad 14 0)), (1, .int (nI (zs_ix p0)))] := by rw [zs_ixe q_10 (by omega)]; exact hl
    refine zb_iconst (n := 0) hx hb dX7_viewers_19 (by decide) ?_
    refine lv_istore_n (lv' := [(2, .int (nI 0)), (0, .ref (ad 14 0)), (1, .int (nI (zs_ix p0)))]) hx hb dX7_viewers_20 rfl hl (by decide) rfl (fun ls hl => ?_)
    refine zb_iconst (n := 0) hx hb dX7_viewers_21 (by decide) ?_
    refine lv_istore_n (lv' := [(3, .int (nI 0)), (2, .int (nI 0)), (0, .ref (ad 14 0)), (1, .int (nI (zs_ix p0)))]) hx hb dX7_viewers_22 rfl hl (by decide) rfl (fun ls hl => ?_)
    have loop23 : ∀ (N : Nat) (Y1 : za_S) (i : Nat), (i ≤ T.1 0 0 0) → (zy Y1 0) → T.1 0 0 0 - i < N → ∀ (H : Heap) (locs : List Loc), za_G E b (ad, S, X, T, Y1, ow, dw) H → va_S (za_A b) s.heap H locs → ∀ ls : Array Slot, lv_has ls 4 [(0, .ref (ad 14 0)), (1, .int (nI (zs_ix p0))), (2, .int (nI (zs_vc T (zs_ix p0) i))), (3, .int (nI i))] → W pg l en ({ frames := 3, cells := 0, slots := 0, locals := 71 } : Room) s m ([.ref (ad 14 0), .int p0] : List Value).toArray below meth c H locs (0 + 0) (0 + 0) (MQ below (za_Qi E b (fun r u => ∃ T2 Y2, u = (ad, S, X, T2, Y2, ow, dw) ∧ zy Y2 (zo_p T (zs_ix p0)) ∧ ((zo_p T (zs_ix p0) = 0 ∧ T2 = T ∧ r = nI (zs_vc T (zs_ix p0) 10)) ∨ (zo_p T (zs_ix p0) ≠ 0 ∧ T2 = T)))) ([.ref (ad 14 0), .int p0] : List Value).toArray s (0) (0) (za_A b)) (F0 m 23 ls []) := by
      intro N
      induction N with
      | zero => intro Y1 i hi hY1 hN; exact absurd hN (Nat.not_lt_zero _)
      | succ N ih23 =>
        intro Y1 i hi hY1 hN H locs hG hS ls hl
        have hvl := zs_vc_le T (zs_ix p0) i
        refine lv_iload_n hx hb dX7_viewers_23 rfl (lv_at hl 3 rfl) ?_
        refine lv_aload_n hx hb dX7_viewers_24 rfl (lv_at hl 0 rfl) ?_
        refine zg_MO_people hx hb hts hinX7 hown hf70 hK hG (n := T.1 0 0 0) rfl dX7_viewers_25 ?_
        refine zb_icmp_ge (x := i) (y := T.1 0 0 0) (tgt := 62) hx hb (by omega) (by have := hBT 0 0 0; omega) dX7_viewers_28 (by decide) (fun c_28 => ?_) (fun c_28 => ?_)
        · obtain rfl : i = T.1 0 0 0 := by omega
          refine lv_iload_n hx hb dX7_viewers_62 rfl (lv_at hl 2 rfl) ?_
          have hcode : zo_p T (zs_ix p0) = 0 := by unfold zo_p; (first | rfl | ((repeat' split) <;> first | rfl | (exfalso; omega) | contradiction | (exfalso; simp_all; done)))
          exact zm_iret hx hb hr hlocks hG hS (by omega) (by omega) ⟨_, _, rfl, by rw [hcode]; exact hY1, Or.inl ⟨hcode, rfl, by rw [zs_vc_10 hc1.1]⟩⟩ dX7_viewers_63
        · refine lv_iload_n hx hb dX7_viewers_31 rfl (lv_at hl 2 rfl) ?_
          refine lv_aload_n hx hb dX7_viewers_32 rfl (lv_at hl 0 rfl) ?_
          refine lv_iload_n hx hb dX7_viewers_33 rfl (lv_at hl 3 rfl) ?_
          refine zc_Vi (As := [.int (nI i)]) (rest := [.int (nI (zs_vc T (zs_ix p0) i))]) hK hZ hb0 hG hS hx hb hml hown hts (c_X7_uses l i hI (by omega) hY1.2) (cwV 1 hts gX7_viewers_X7_uses rfl rfl rfl (by decide +kernel) ⟨Nat.le_of_ble_eq_true rfl, Nat.le_of_ble_eq_true rfl⟩) (za_recv (q := (RX7, TX7, 25)) hK hG 14 0 ⟨by omega, rfl⟩ rfl rfl rfl) rfl hl rfl (Nat.le_of_ble_eq_true rfl) dX7_viewers_34 ⟨Nat.le_of_ble_eq_true rfl, Nat.le_of_ble_eq_true rfl⟩ (fun r_34 u_34 H locs hp hG hS => ?_)
          obtain ⟨rfl, Y2, rfl, q2, q3⟩ := hp
          have hus := zs_us_le T i
          have hw5 := (zm_w5_le T i).1 (zs_ix p0)
          refine zb_if_le (x := zs_us T i) (tgt := 53) hx hb (by omega) dX7_viewers_37 (by decide) (fun c_37 => ?_) (fun c_37 => ?_)
          · refine zb_iconst (n := 0) hx hb dX7_viewers_53 (by decide) ?_
            refine zb_iadd hx hb dX7_viewers_54 ?_
            refine lv_istore_n (lv' := [(2, .int (nI ((zs_vc T (zs_ix p0) i) + 0))), (0, .ref (ad 14 0)), (1, .int (nI (zs_ix p0))), (3, .int (nI i))]) hx hb dX7_viewers_55 rfl hl (by decide) rfl (fun ls hl => ?_)
            refine zb_iinc (n := 1) (k := 3) (lv' := [(3, .int (nI (i + 1))), (2, .int (nI ((zs_vc T (zs_ix p0) i) + 0))), (0, .ref (ad 14 0)), (1, .int (nI (zs_ix p0)))]) hx hb dX7_viewers_56 hl rfl (by decide) (by decide) rfl (fun ls hl => ?_)
            refine zb_goto (tgt := 23) hx hb dX7_viewers_59 (by decide) ?_
            have e9 : zs_vc T (zs_ix p0) (i + 1) = (zs_vc T (zs_ix p0) i) + 0 := by
              show zs_sum _ (i + 1) = _
              rw [zs_sum]
              first | (rw [if_pos ⟨by omega, by omega⟩]; rfl) | (rw [if_neg (fun z => by have := z.2; omega)]; rfl) | (rw [if_neg (fun z => by have := z.2; rw [zs_us_0 (by omega) _ (by omega)] at this; omega)]; rfl)
            rw [← e9] at hl
            exact ih23 Y2 (i + 1) (by omega) ⟨q2.1.trans hY1.1, q2.2⟩ (by omega) _ _ hG hS ls (lv_sub hl [2, 3, 1, 0] rfl)
          · refine lv_aload_n hx hb dX7_viewers_40 rfl (lv_at hl 0 rfl) ?_
            refine zg_MO_layers hx hb hts hinX7 hown hf63 hK hG dX7_viewers_41 ?_
            refine lv_iload_n hx hb dX7_viewers_44 rfl (lv_at hl 1 rfl) ?_
            refine zld_MY (n := (zs_ch T i).1 (zs_ix p0)) hx hb hK hG (by omega) (q3 _ (by omega)) dX7_viewers_45 ?_
            refine zb_if_le (x := (zs_ch T i).1 (zs_ix p0)) (tgt := 53) hx hb (by omega) dX7_viewers_46 (by decide) (fun c_46 => ?_) (fun c_46 => ?_)
            · refine zb_iconst (n := 0) hx hb dX7_viewers_53 (by decide) ?_
              refine zb_iadd hx hb dX7_viewers_54 ?_
              refine lv_istore_n (lv' := [(2, .int (nI ((zs_vc T (zs_ix p0) i) + 0))), (0, .ref (ad 14 0)), (1, .int (nI (zs_ix p0))), (3, .int (nI i))]) hx hb dX7_viewers_55 rfl hl (by decide) rfl (fun ls hl => ?_)
              refine zb_iinc (n := 1) (k := 3) (lv' := [(3, .int (nI (i + 1))), (2, .int (nI ((zs_vc T (zs_ix p0) i) + 0))), (0, .ref (ad 14 0)), (1, .int (nI (zs_ix p0)))]) hx hb dX7_viewers_56 hl rfl (by decide) (by decide) rfl (fun ls hl => ?_)
              refine zb_goto (tgt := 23) hx hb dX7_viewers_59 (by decide) ?_
              have e9 : zs_vc T (zs_ix p0) (i + 1) = (zs_vc T (zs_ix p0) i) + 0 := by
                show zs_sum _ (i + 1) = _
                rw [zs_sum]
                first | (rw [if_pos ⟨by omega, by omega⟩]; rfl) | (rw [if_neg (fun z => by have := z.2; omega)]; rfl) | (rw [if_neg (fun z => by have := z.2; rw [zs_us_0 (by omega) _ (by omega)] at this; omega)]; rfl)
              rw [← e9] at hl
              exact ih23 Y2 (i + 1) (by omega) ⟨q2.1.trans hY1.1, q2.2⟩ (by omega) _ _ hG hS ls (lv_sub hl [2, 3, 1, 0] rfl)
            · refine zb_iconst (n := 1) hx hb dX7_viewers_49 (by decide) ?_
              refine zb_goto (tgt := 54) hx hb dX7_viewers_50 (by decide) ?_
              refine zb_iadd hx hb dX7_viewers_54 ?_
              refine lv_istore_n (lv' := [(2, .int (nI ((zs_vc T (zs_ix p0) i) + 1))), (0, .ref (ad 14 0)), (1, .int (nI (zs_ix p0))), (3, .int (nI i))]) hx hb dX7_viewers_55 rfl hl (by decide) rfl (fun ls hl => ?_)
              refine zb_iinc (n := 1) (k := 3) (lv' := [(3, .int (nI (i + 1))), (2, .int (nI ((zs_vc T (zs_ix p0) i) + 1))), (0, .ref (ad 14 0)), (1, .int (nI (zs_ix p0)))]) hx hb dX7_viewers_56 hl rfl (by decide) (by decide) rfl (fun ls hl => ?_)
              refine zb_goto (tgt := 23) hx hb dX7_viewers_59 (by decide) ?_
              have e9 : zs_vc T (zs_ix p0) (i + 1) = (zs_vc T (zs_ix p0) i) + 1 := by
                show zs_sum _ (i + 1) = _
                rw [zs_sum]
                first | (rw [if_pos ⟨by omega, by omega⟩]; rfl) | (rw [if_neg (fun z => by have := z.2; omega)]; rfl) | (rw [if_neg (fun z => by have := z.2; rw [zs_us_0 (by omega) _ (by omega)] at this; omega)]; rfl)
              rw [← e9] at hl
              exact ih23 Y2 (i + 1) (by omega) ⟨q2.1.trans hY1.1, q2.2⟩ (by omega) _ _ hG hS ls (lv_sub hl [2, 3, 1, 0] rfl)
    exact loop23 (_ + 1) (za_N Y 0 0 0 0) 0 (Nat.zero_le _) (zy_N hBY (by decide)) (Nat.lt_succ_self _) _ _ hG hS ls (lv_sub hl [2, 3, 1, 0] rfl)
  · have q_10 : ¬ (zs_ix p0 < T.1 0 0 0) := zs_c0 c_10
    refine lv_aload_n hx hb dX7_viewers_13 rfl (lv_at hl 0 rfl) ?_
    refine zb_iconst (n := 1) hx hb dX7_viewers_14 (by decide) ?_
    refine zc_Vi (As := [.int (nI 1)]) (rest := []) hK hZ hb0 hG hS hx hb hml hown hts (c_X7_fails l 1) (cwV 1 hts gX7_viewers_X7_fails rfl rfl rfl (by decide +kernel) ⟨Nat.le_of_ble_eq_true rfl, Nat.le_of_ble_eq_true rfl⟩) (za_recv (q := (RX7, TX7, 25)) hK hG 14 0 ⟨by omega, rfl⟩ rfl rfl rfl) rfl hl rfl (Nat.le_of_ble_eq_true rfl) dX7_viewers_15 ⟨Nat.le_of_ble_eq_true rfl, Nat.le_of_ble_eq_true rfl⟩ (fun r_15 u_15 H locs hp hG hS => ?_)
    obtain ⟨rfl, rfl⟩ := hp
    have hcode : zo_p T (zs_ix p0) = 1 := by unfold zo_p; (first | rfl | ((repeat' split) <;> first | rfl | (exfalso; omega) | contradiction | (exfalso; simp_all; done)))
    exact zm_iret hx hb hr hlocks hG hS (by omega) (by omega) ⟨_, _, rfl, by rw [hcode]; exact zy_N (zs_N_B hBY (by decide)) (by decide), Or.inr ⟨by rw [hcode]; decide, rfl⟩⟩ dX7_viewers_18

set_option maxRecDepth 100000 in
set_option maxHeartbeats 4000000 in
theorem c_X7_isApart (l : Launch) {E : za_E} {b : Nat} {ad : za_Ad} {S X T Y : za_S} {ow : Int64} {dw : UInt64}  (hM : zs_M T Y) : Met l yX7_isApart wsX7_isApart ({ frames := 3, cells := 0, slots := 0, locals := 71 } : Room) (za_Pc E b (ad, S, X, T, Y, ow, dw) [.ref (ad 14 0)]) (za_Qi E b (fun r u => ∃ T2 Y2, u = (ad, S, X, T2, Y2, ow, dw) ∧ zy Y2 (0) ∧ ((0 = 0 ∧ T2 = T ∧ r = nI 1) ∨ (0 ≠ 0 ∧ T2 = T)))) (0) (0) (za_A b) := by
  refine zm_met (ccm := cX7_isApart) (maxL := 2) (ret := (some .boolean)) (ws' := _) (own := RX7) (lv := [(0, .ref (ad 14 0))]) (by decide) rfl rfl rfl (by simp [lg_sl, Value.category]) ?_
  intro pg en s m below meth c hx hb hml hr hown hts hlocks hK hZ hb0 hG hS ls hl
  have hf66 := hts (.fieldLink RX7 66 "VideoBridgeModel" "code" "I") (by decide +kernel)
  have hf7 := hts (.fieldLink RX7 7 "VideoBridgeModel" "budgets" "[I") (by decide +kernel)
  have hf70 := hts (.fieldLink RX7 70 "VideoBridgeModel" "people" "I") (by decide +kernel)
  have hinX7 : ∀ w ∈ u_ws RX7 TX7 25, w ∈ wsX7_isApart := by decide +kernel
  skip
  obtain ⟨hI, hL, h6, hBY⟩ := id hM
  have hBT := hI.B
  have hc1 := hI.c
  have htI := hI.t
  refine lv_aload_n hx hb dX7_isApart_0 rfl (lv_at hl 0 rfl) ?_
  refine zb_iconst (n := 0) hx hb dX7_isApart_1 (by decide) ?_
  refine zp_MO_code hx hb hts hinX7 hown hf66 hS hK hG dX7_isApart_2 (fun H locs hG hS => ?_)
  refine zb_iconst (n := 0) hx hb dX7_isApart_5 (by decide) ?_
  refine lv_istore_n (lv' := [(1, .int (nI 0)), (0, .ref (ad 14 0))]) hx hb dX7_isApart_6 rfl hl (by decide) rfl (fun ls hl => ?_)
  have loop7 : ∀ (N : Nat) (Y1 : za_S) (i : Nat), (i ≤ T.1 0 0 0) → (zy Y1 0) → T.1 0 0 0 - i < N → ∀ (H : Heap) (locs : List Loc), za_G E b (ad, S, X, T, Y1, ow, dw) H → va_S (za_A b) s.heap H locs → ∀ ls : Array Slot, lv_has ls 2 [(0, .ref (ad 14 0)), (1, .int (nI i))] → W pg l en ({ frames := 3, cells := 0, slots := 0, locals := 71 } : Room) s m ([.ref (ad 14 0)] : List Value).toArray below meth c H locs (0) (0) (MQ below (za_Qi E b (fun r u => ∃ T2 Y2, u = (ad, S, X, T2, Y2, ow, dw) ∧ zy Y2 (0) ∧ ((0 = 0 ∧ T2 = T ∧ r = nI 1) ∨ (0 ≠ 0 ∧ T2 = T)))) ([.ref (ad 14 0)] : List Value).toArray s (0) (0) (za_A b)) (F0 m 7 ls []) := by
    intro N
    induction N with
    | zero => intro Y1 i hi hY1 hN; exact absurd hN (Nat.not_lt_zero _)
    | succ N ih7 =>
      intro Y1 i hi hY1 hN H locs hG hS ls hl
      refine lv_iload_n hx hb dX7_isApart_7 rfl (lv_at hl 1 rfl) ?_
      refine lv_aload_n hx hb dX7_isApart_8 rfl (lv_at hl 0 rfl) ?_
      refine zg_MO_people hx hb hts hinX7 hown hf70 hK hG (n := T.1 0 0 0) rfl dX7_isApart_9 ?_
      refine zb_icmp_ge (x := i) (y := T.1 0 0 0) (tgt := 37) hx hb (by omega) (by have := hBT 0 0 0; omega) dX7_isApart_12 (by decide) (fun c_12 => ?_) (fun c_12 => ?_)
      · refine zb_iconst (n := 1) hx hb dX7_isApart_37 (by decide) ?_
        have hcode : 0 = 0 := by (first | rfl | ((repeat' split) <;> first | rfl | (exfalso; omega) | contradiction | (exfalso; simp_all; done)))
        exact zm_zret hx hb hr rfl hlocks hG hS (by omega) (by omega) ⟨_, _, rfl, by rw [hcode]; exact hY1, Or.inl ⟨hcode, rfl, rfl⟩⟩ dX7_isApart_38
      · refine lv_aload_n hx hb dX7_isApart_15 rfl (lv_at hl 0 rfl) ?_
        refine lv_iload_n hx hb dX7_isApart_16 rfl (lv_at hl 1 rfl) ?_
        refine zc_Vi (As := [.int (nI i)]) (rest := []) hK hZ hb0 hG hS hx hb hml hown hts (c_X7_uses l i hI c_12 hY1.2) (cwV 1 hts gX7_isApart_X7_uses rfl rfl rfl (by decide +kernel) ⟨Nat.le_of_ble_eq_true rfl, Nat.le_of_ble_eq_true rfl⟩) (za_recv (q := (RX7, TX7, 25)) hK hG 14 0 ⟨by omega, rfl⟩ rfl rfl rfl) rfl hl rfl (Nat.le_of_ble_eq_true rfl) dX7_isApart_17 ⟨Nat.le_of_ble_eq_true rfl, Nat.le_of_ble_eq_true rfl⟩ (fun r_17 u_17 H locs hp hG hS => ?_)
        obtain ⟨rfl, Y2, rfl, q2, q3⟩ := hp
        have hus := zs_us_le T i
        refine lv_aload_n hx hb dX7_isApart_20 rfl (lv_at hl 0 rfl) ?_
        refine zg_MO_budgets hx hb hts hinX7 hown hf7 hK hG dX7_isApart_21 ?_
        refine lv_iload_n hx hb dX7_isApart_24 rfl (lv_at hl 1 rfl) ?_
        refine zld_MB (n := T.1 1 i 0) hx hb hK hG (by omega) rfl dX7_isApart_25 ?_
        have hbu := zs_us_bu hI c_12
        refine zb_icmp_le (x := zs_us T i) (y := T.1 1 i 0) (tgt := 31) hx hb (by omega) (by have := hBT 1 i 0; omega) dX7_isApart_26 (by decide) (fun c_26 => ?_) (fun c_26 => ?_)
        · refine zb_iinc (n := 1) (k := 1) (lv' := [(1, .int (nI (i + 1))), (0, .ref (ad 14 0))]) hx hb dX7_isApart_31 hl rfl (by decide) (by decide) rfl (fun ls hl => ?_)
          refine zb_goto (tgt := 7) hx hb dX7_isApart_34 (by decide) ?_
          exact ih7 Y2 (i + 1) (by omega) ⟨q2.1.trans hY1.1, q2.2⟩ (by omega) _ _ hG hS ls (lv_sub hl [1, 0] rfl)
        · omega
  exact loop7 (_ + 1) (za_N Y 0 0 0 0) 0 (Nat.zero_le _) (zy_N hBY (by decide)) (Nat.lt_succ_self _) _ _ hG hS ls (lv_sub hl [1, 0] rfl)
