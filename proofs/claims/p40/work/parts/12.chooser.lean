set_option maxRecDepth 100000 in
set_option maxHeartbeats 4000000 in
theorem c_X0_append (l : Launch) {E : za_E} {b : Nat} {ad : za_Ad} {S X T Y : za_S} {ow : Int64} {dw : UInt64} (o : Option Nat) (v : Nat) (ho : ∀ x, o = some x → x < X.1 5 0 0) (hv : v < X.1 5 0 0) (hBX : zs_B X) (hBS : zs_B S) : Met l yX0_append wsX0_append ({ frames := 0, cells := 0, slots := 0, locals := 0 } : Room) (za_Pc E b (ad, S, X, T, Y, ow, dw) [.ref (ad 4 0), za_o ad 8 o, .ref (ad 8 v)]) (za_Qv E b (fun u => u = (ad, S, zs_app X o v, T, Y, ow, dw))) (0) (0) (za_A b) := by
  refine zm_met (ccm := cX0_append) (maxL := 3) (ret := none) (ws' := _) (own := RX0) (lv := [(0, .ref (ad 4 0)), (1, za_o ad 8 o), (2, .ref (ad 8 v))]) (by decide) rfl rfl (by simp [lv_args, za_cat, za_catr, za_cati]) (by simp [lg_sl, za_cat, za_catr, za_cati]) ?_
  intro pg en s m below meth c hx hb hml hr hown hts hlocks hK hZ hb0 hG hS ls hl
  have hf20 := hts (.fieldLink RX0 20 "VideoBridge$Chooser" "line" "[LVideoBridge$Person;") (by decide +kernel)
  have hf50 := hts (.fieldLink RX0 50 "VideoBridge$Chooser" "lineLength" "I") (by decide +kernel)
  have hinX0 : ∀ w ∈ u_ws RX0 TX0 4, w ∈ wsX0_append := by decide +kernel
  skip
  refine zb_oload_n hx hb dX0_append_0 rfl (lv_at hl 1 rfl) ?_
  refine zb_ifnull (κ := 8) (r := o) (tgt := 48) hx hb dX0_append_1 (by decide) (fun c_1 => ?_) (fun x_1 c_1 => ?_)
  · subst c_1
    exact zm_vret hx hb hr hlocks hG hS (by omega) (by omega) (by first | rfl | (simp only [zs_app]; rw [if_neg (by rintro ⟨h1, h2⟩; first | omega | exact h1 (Option.some.inj c_6))]) | (simp only [zs_app]; rw [if_pos ⟨fun h => c_6 (congrArg some h), by omega⟩] <;> rfl)) dX0_append_48
  · subst c_1
    refine lv_aload_n hx hb dX0_append_4 rfl (lv_at hl 1 rfl) ?_
    refine lv_aload_n hx hb dX0_append_5 rfl (lv_at hl 2 rfl) ?_
    refine zb_acmp_eq (tgt := 48) hx hb hG 8 (by decide) (some x_1) (some v) (by rintro _ ⟨⟩; exact (ho _ rfl)) (by rintro _ ⟨⟩; exact hv) dX0_append_6 (by decide) (fun c_6 => ?_) (fun c_6 => ?_)
    · exact zm_vret hx hb hr hlocks hG hS (by omega) (by omega) (by first | rfl | (simp only [zs_app]; rw [if_neg (by rintro ⟨h1, h2⟩; first | omega | exact h1 (Option.some.inj c_6))]) | (simp only [zs_app]; rw [if_pos ⟨fun h => c_6 (congrArg some h), by omega⟩] <;> rfl)) dX0_append_48
    · refine lv_aload_n hx hb dX0_append_9 rfl (lv_at hl 0 rfl) ?_
      refine zg_CH_lineLength hx hb hts hinX0 hown hf50 hK hG (n := X.1 1 0 0) rfl dX0_append_10 ?_
      refine zb_if_lt (x := X.1 1 0 0) (tgt := 48) hx hb (by have := hBX 1 0 0; omega) dX0_append_13 (by decide) ?_
      refine lv_aload_n hx hb dX0_append_16 rfl (lv_at hl 0 rfl) ?_
      refine zg_CH_lineLength hx hb hts hinX0 hown hf50 hK hG (n := X.1 1 0 0) rfl dX0_append_17 ?_
      refine lv_aload_n hx hb dX0_append_20 rfl (lv_at hl 0 rfl) ?_
      refine zg_CH_line hx hb hts hinX0 hown hf20 hK hG dX0_append_21 ?_
      refine zl_LN hx hb hK hG dX0_append_24 ?_
      refine zb_icmp_ge (x := X.1 1 0 0) (y := 10) (tgt := 48) hx hb (by have := hBX 1 0 0; omega) (by omega) dX0_append_25 (by decide) (fun c_25 => ?_) (fun c_25 => ?_)
      · exact zm_vret hx hb hr hlocks hG hS (by omega) (by omega) (by first | rfl | (simp only [zs_app]; rw [if_neg (by rintro ⟨h1, h2⟩; first | omega | exact h1 (Option.some.inj c_6))]) | (simp only [zs_app]; rw [if_pos ⟨fun h => c_6 (congrArg some h), by omega⟩] <;> rfl)) dX0_append_48
      · refine lv_aload_n hx hb dX0_append_28 rfl (lv_at hl 0 rfl) ?_
        refine zg_CH_line hx hb hts hinX0 hown hf20 hK hG dX0_append_29 ?_
        refine lv_aload_n hx hb dX0_append_32 rfl (lv_at hl 0 rfl) ?_
        refine zg_CH_lineLength hx hb hts hinX0 hown hf50 hK hG (n := X.1 1 0 0) rfl dX0_append_33 ?_
        refine lv_aload_n hx hb dX0_append_36 rfl (lv_at hl 1 rfl) ?_
        refine zst_LN hx hb hK hG hS (by omega) (ho _ rfl) dX0_append_37 (fun H locs hG hS => ?_)
        refine lv_aload_n hx hb dX0_append_38 rfl (lv_at hl 0 rfl) ?_
        refine lv_dup hx hb dX0_append_39 rfl ?_
        refine zg_CH_lineLength hx hb hts hinX0 hown hf50 hK hG (n := X.1 1 0 0) rfl dX0_append_40 ?_
        refine zb_iconst (n := 1) hx hb dX0_append_43 (by decide) ?_
        refine zb_iadd hx hb dX0_append_44 ?_
        refine zp_CH_lineLength hx hb hts hinX0 hown hf50 hS hK hG dX0_append_45 (fun H locs hG hS => ?_)
        exact zm_vret hx hb hr hlocks hG hS (by omega) (by omega) (by first | rfl | (simp only [zs_app]; rw [if_neg (by rintro ⟨h1, h2⟩; first | omega | exact h1 (Option.some.inj c_6))]) | (simp only [zs_app]; rw [if_pos ⟨fun h => c_6 (congrArg some h), by omega⟩] <;> rfl)) dX0_append_48

set_option maxRecDepth 100000 in
set_option maxHeartbeats 4000000 in
theorem c_X0_inLine (l : Launch) {E : za_E} {b : Nat} {ad : za_Ad} {S X T Y : za_S} {ow : Int64} {dw : UInt64} (n : Nat) (hn : n < 2 ^ 31) (hBX : zs_B X) (hBS : zs_B S) : Met l yX0_inLine wsX0_inLine ({ frames := 0, cells := 0, slots := 0, locals := 0 } : Room) (za_Pc E b (ad, S, X, T, Y, ow, dw) [.ref (ad 4 0), .int (nI n)]) (za_Qq E b 8 (fun r u => r = (if n < X.1 1 0 0 ∧ n < 10 then X.2 0 n 0 else none) ∧ u = (ad, S, X, T, Y, ow, dw))) (0) (0) (za_A b) := by
  refine zm_met (ccm := cX0_inLine) (maxL := 2) (ret := (some (.object "VideoBridge$Person"))) (ws' := _) (own := RX0) (lv := [(0, .ref (ad 4 0)), (1, .int (nI n))]) (by decide) rfl rfl rfl (by simp [lg_sl, Value.category]) ?_
  intro pg en s m below meth c hx hb hml hr hown hts hlocks hK hZ hb0 hG hS ls hl
  have hf20 := hts (.fieldLink RX0 20 "VideoBridge$Chooser" "line" "[LVideoBridge$Person;") (by decide +kernel)
  have hf50 := hts (.fieldLink RX0 50 "VideoBridge$Chooser" "lineLength" "I") (by decide +kernel)
  have hinX0 : ∀ w ∈ u_ws RX0 TX0 4, w ∈ wsX0_inLine := by decide +kernel
  skip
  refine lv_iload_n hx hb dX0_inLine_0 rfl (lv_at hl 1 rfl) ?_
  refine zb_if_lt (x := n) (tgt := 21) hx hb (by omega) dX0_inLine_1 (by decide) ?_
  refine lv_iload_n hx hb dX0_inLine_4 rfl (lv_at hl 1 rfl) ?_
  refine lv_aload_n hx hb dX0_inLine_5 rfl (lv_at hl 0 rfl) ?_
  refine zg_CH_lineLength hx hb hts hinX0 hown hf50 hK hG (n := X.1 1 0 0) rfl dX0_inLine_6 ?_
  refine zb_icmp_ge (x := n) (y := X.1 1 0 0) (tgt := 21) hx hb (by omega) (by have := hBX 1 0 0; omega) dX0_inLine_9 (by decide) (fun c_9 => ?_) (fun c_9 => ?_)
  · refine lv_null hx hb dX0_inLine_21 ?_
    refine zb_goto (tgt := 31) hx hb dX0_inLine_22 (by decide) ?_
    exact zm_qret (r := none) hx hb hr hlocks hG hS (by omega) (by omega) ⟨by first | rw [if_neg (by omega)] | rw [if_pos (by omega)], rfl⟩ dX0_inLine_31
  · refine lv_iload_n hx hb dX0_inLine_12 rfl (lv_at hl 1 rfl) ?_
    refine lv_aload_n hx hb dX0_inLine_13 rfl (lv_at hl 0 rfl) ?_
    refine zg_CH_line hx hb hts hinX0 hown hf20 hK hG dX0_inLine_14 ?_
    refine zl_LN hx hb hK hG dX0_inLine_17 ?_
    refine zb_icmp_lt (x := n) (y := 10) (tgt := 25) hx hb (by omega) (by omega) dX0_inLine_18 (by decide) (fun c_18 => ?_) (fun c_18 => ?_)
    · refine lv_aload_n hx hb dX0_inLine_25 rfl (lv_at hl 0 rfl) ?_
      refine zg_CH_line hx hb hts hinX0 hown hf20 hK hG dX0_inLine_26 ?_
      refine lv_iload_n hx hb dX0_inLine_29 rfl (lv_at hl 1 rfl) ?_
      refine zld_LN (r := X.2 0 n 0) hx hb hK hG (by omega) rfl dX0_inLine_30 ?_
      exact zm_qret (r := X.2 0 n 0) hx hb hr hlocks hG hS (by omega) (by omega) ⟨by first | rw [if_neg (by omega)] | rw [if_pos (by omega)], rfl⟩ dX0_inLine_31
    · refine lv_null hx hb dX0_inLine_21 ?_
      refine zb_goto (tgt := 31) hx hb dX0_inLine_22 (by decide) ?_
      exact zm_qret (r := none) hx hb hr hlocks hG hS (by omega) (by omega) ⟨by first | rw [if_neg (by omega)] | rw [if_pos (by omega)], rfl⟩ dX0_inLine_31

set_option maxRecDepth 100000 in
set_option maxHeartbeats 4000000 in
theorem c_X0_take (l : Launch) {E : za_E} {b : Nat} {ad : za_Ad} {S X T Y : za_S} {ow : Int64} {dw : UInt64} (o : Option Nat) (ly : Nat) (ho : ∀ x, o = some x → x < X.1 5 0 0) (ho10 : ∀ x, o = some x → x < 10) (h1 : 1 ≤ ly) (h3 : ly ≤ 3) (hBX : zs_B X) (hBS : zs_B S) : Met l yX0_take wsX0_take ({ frames := 1, cells := 0, slots := 0, locals := 23 } : Room) (za_Pc E b (ad, S, X, T, Y, ow, dw) [.ref (ad 4 0), za_o ad 8 o, .int (nI ly)]) (za_Qv E b (fun u => u = (ad, S, zs_take S X o ly, T, Y, ow, dw))) (0) (0) (za_A b) := by
  refine zm_met (ccm := cX0_take) (maxL := 4) (ret := none) (ws' := _) (own := RX0) (lv := [(0, .ref (ad 4 0)), (1, za_o ad 8 o), (2, .int (nI ly))]) (by decide) rfl rfl (by simp [lv_args, za_cat, za_catr, za_cati]) (by simp [lg_sl, za_cat, za_catr, za_cati]) ?_
  intro pg en s m below meth c hx hb hml hr hown hts hlocks hK hZ hb0 hG hS ls hl
  have hf12 := hts (.fieldLink RX0 12 "VideoBridge$Chooser" "chosen" "LVideoBridge$Layers;") (by decide +kernel)
  have hf31 := hts (.fieldLink RX0 31 "VideoBridge$Chooser" "left" "I") (by decide +kernel)
  have hf76 := hts (.fieldLink RX0 76 "VideoBridge$Person" "number" "I") (by decide +kernel)
  have hf83 := hts (.fieldLink RX0 83 "VideoBridge$Person" "sends" "I") (by decide +kernel)
  have hinX0 : ∀ w ∈ u_ws RX0 TX0 4, w ∈ wsX0_take := by decide +kernel
  have hinX2 : ∀ w ∈ u_ws RX2 TX2 8, w ∈ wsX0_take := by decide +kernel
  skip
  refine zb_oload_n hx hb dX0_take_0 rfl (lv_at hl 1 rfl) ?_
  refine zb_ifnull (κ := 8) (r := o) (tgt := 29) hx hb dX0_take_1 (by decide) (fun c_1 => ?_) (fun x_1 c_1 => ?_)
  · subst c_1
    exact zm_vret hx hb hr hlocks hG hS (by omega) (by omega) (by first | rfl | (simp only [zs_take]; rw [if_neg (by rintro ⟨h4, h5, h6⟩; omega)]) | (simp only [zs_take]; rw [if_pos ⟨by omega, by omega, by omega⟩] <;> rfl)) dX0_take_29
  · subst c_1
    refine lv_aload_n hx hb dX0_take_4 rfl (lv_at hl 0 rfl) ?_
    refine zg_CH_chosen hx hb hts hinX0 hown hf12 hK hG dX0_take_5 ?_
    refine lv_aload_n hx hb dX0_take_8 rfl (lv_at hl 1 rfl) ?_
    refine zg_PE_number hx hb hts hinX2 hown hf76 hK hG x_1 (ho _ rfl) dX0_take_9 ?_
    refine zc_Vi (As := [.int (nI x_1)]) (rest := []) hK hZ hb0 hG hS hx hb hml hown hts (c_X1_of l 10 x_1 (Or.inr rfl) (ho10 _ rfl)) (cwV 1 hts gX0_take_X1_of rfl rfl rfl (by decide +kernel) ⟨Nat.le_of_ble_eq_true rfl, Nat.le_of_ble_eq_true rfl⟩) (za_recv (q := (RX1, TX1, 1)) hK hG 6 10 (show 10 < X.1 5 0 0 ∨ 10 = 10 from (Or.inr rfl)) rfl rfl rfl) rfl hl rfl (Nat.le_of_ble_eq_true rfl) dX0_take_12 ⟨Nat.le_of_ble_eq_true rfl, Nat.le_of_ble_eq_true rfl⟩ (fun r_12 u_12 H locs hp hG hS => ?_)
    obtain ⟨rfl, rfl⟩ := hp
    refine lv_iload_n hx hb dX0_take_15 rfl (lv_at hl 2 rfl) ?_
    refine zb_iconst (n := 1) hx hb dX0_take_16 (by decide) ?_
    refine zb_isub hx hb (by omega) dX0_take_17 ?_
    refine zb_icmp_ne (x := X.1 0 10 x_1) (y := ly - 1) (tgt := 29) hx hb (by have := hBX 0 10 x_1; omega) (by omega) dX0_take_18 (by decide) (fun c_18 => ?_) (fun c_18 => ?_)
    · exact zm_vret hx hb hr hlocks hG hS (by omega) (by omega) (by first | rfl | (simp only [zs_take]; rw [if_neg (by rintro ⟨h4, h5, h6⟩; omega)]) | (simp only [zs_take]; rw [if_pos ⟨by omega, by omega, by omega⟩] <;> rfl)) dX0_take_29
    · refine lv_aload_n hx hb dX0_take_21 rfl (lv_at hl 1 rfl) ?_
      refine zg_PE_sends hx hb hts hinX2 hown hf83 hK hG x_1 (ho _ rfl) (n := S.1 2 x_1 0) rfl dX0_take_22 ?_
      refine lv_iload_n hx hb dX0_take_25 rfl (lv_at hl 2 rfl) ?_
      refine zb_icmp_ge (x := S.1 2 x_1 0) (y := ly) (tgt := 30) hx hb (by have := hBS 2 x_1 0; omega) (by omega) dX0_take_26 (by decide) (fun c_26 => ?_) (fun c_26 => ?_)
      · refine lv_iload_n hx hb dX0_take_30 rfl (lv_at hl 2 rfl) ?_
        refine zc_Ni (As := [.int (nI ly)]) (rest := []) hK hZ hb0 hG hS hx hb hml hown hts (c_X6_need l ly (by omega)) ⟨va_cnB (host := RX6) 1 hts gX0_take_X6_need_n86 rfl rfl rfl (hZ.2.2.2.2.1 (RX0, 86, yX6_need) (by simp [za_nests])) (hts (.initialized RX6) (by decide +kernel)) (by decide +kernel) ⟨Nat.le_of_ble_eq_true rfl, Nat.le_of_ble_eq_true rfl⟩, hts (.static yX6_need) (by decide +kernel), trivial⟩ rfl hl rfl (Nat.le_of_ble_eq_true rfl) dX0_take_31 ⟨Nat.le_of_ble_eq_true rfl, Nat.le_of_ble_eq_true rfl⟩ (fun r_31 u_31 H locs hp hG hS => ?_)
        obtain ⟨rfl, rfl⟩ := hp
        refine lv_iload_n hx hb dX0_take_34 rfl (lv_at hl 2 rfl) ?_
        refine zb_iconst (n := 1) hx hb dX0_take_35 (by decide) ?_
        refine zb_isub hx hb (by omega) dX0_take_36 ?_
        refine zc_Ni (As := [.int (nI (ly - 1))]) (rest := [.int (nI (zs_need ly))]) hK hZ hb0 hG hS hx hb hml hown hts (c_X6_need l (ly - 1) (by omega)) ⟨va_cnB (host := RX6) 1 hts gX0_take_X6_need_n86 rfl rfl rfl (hZ.2.2.2.2.1 (RX0, 86, yX6_need) (by simp [za_nests])) (hts (.initialized RX6) (by decide +kernel)) (by decide +kernel) ⟨Nat.le_of_ble_eq_true rfl, Nat.le_of_ble_eq_true rfl⟩, hts (.static yX6_need) (by decide +kernel), trivial⟩ rfl hl rfl (Nat.le_of_ble_eq_true rfl) dX0_take_37 ⟨Nat.le_of_ble_eq_true rfl, Nat.le_of_ble_eq_true rfl⟩ (fun r_37 u_37 H locs hp hG hS => ?_)
        obtain ⟨rfl, rfl⟩ := hp
        refine zb_isub hx hb (zs_need_mono h1 h3) dX0_take_40 ?_
        refine lv_istore_n (lv' := [(3, .int (nI ((zs_need ly) - (zs_need (ly - 1))))), (0, .ref (ad 4 0)), (1, .ref (ad 8 x_1)), (2, .int (nI ly))]) hx hb dX0_take_41 rfl hl (by decide) rfl (fun ls hl => ?_)
        refine lv_iload_n hx hb dX0_take_42 rfl (lv_at hl 0 rfl) ?_
        refine lv_aload_n hx hb dX0_take_43 rfl (lv_at hl 1 rfl) ?_
        refine zg_CH_left hx hb hts hinX0 hown hf31 hK hG (n := X.1 2 0 0) rfl dX0_take_44 ?_
        refine zb_icmp_gt (x := (zs_need ly) - (zs_need (ly - 1))) (y := X.1 2 0 0) (tgt := 72) hx hb (by have := zs_need_le ly; have := zs_need_le (ly - 1); omega) (by have := hBX 2 0 0; omega) dX0_take_47 (by decide) (fun c_47 => ?_) (fun c_47 => ?_)
        · exact zm_vret hx hb hr hlocks hG hS (by omega) (by omega) (by first | rfl | (simp only [zs_take]; rw [if_neg (by rintro ⟨h4, h5, h6⟩; omega)]) | (simp only [zs_take]; rw [if_pos ⟨by omega, by omega, by omega⟩] <;> rfl)) dX0_take_72
        · refine lv_aload_n hx hb dX0_take_50 rfl (lv_at hl 1 rfl) ?_
          refine lv_dup hx hb dX0_take_51 rfl ?_
          refine zg_CH_left hx hb hts hinX0 hown hf31 hK hG (n := X.1 2 0 0) rfl dX0_take_52 ?_
          refine lv_iload_n hx hb dX0_take_55 rfl (lv_at hl 0 rfl) ?_
          refine zb_isub hx hb (by omega) dX0_take_56 ?_
          refine zp_CH_left hx hb hts hinX0 hown hf31 hS hK hG dX0_take_57 (fun H locs hG hS => ?_)
          refine lv_aload_n hx hb dX0_take_60 rfl (lv_at hl 1 rfl) ?_
          refine zg_CH_chosen hx hb hts hinX0 hown hf12 hK hG dX0_take_61 ?_
          refine lv_aload_n hx hb dX0_take_64 rfl (lv_at hl 2 rfl) ?_
          refine zg_PE_number hx hb hts hinX2 hown hf76 hK hG x_1 (ho _ rfl) dX0_take_65 ?_
          refine lv_iload_n hx hb dX0_take_68 rfl (lv_at hl 3 rfl) ?_
          refine zc_Vv (As := [.int (nI x_1), .int (nI ly)]) (rest := []) hK hZ hb0 hG hS hx hb hml hown hts (c_X1_set l 10 x_1 ly (Or.inr rfl) (ho10 _ rfl)) (cwV 2 hts gX0_take_X1_set rfl rfl rfl (by decide +kernel) ⟨Nat.le_of_ble_eq_true rfl, Nat.le_of_ble_eq_true rfl⟩) (za_recv (q := (RX1, TX1, 1)) hK hG 6 10 (show 10 < (za_N X 2 0 0 ((X.1 2 0 0) - ((zs_need ly) - (zs_need (ly - 1))))).1 5 0 0 ∨ 10 = 10 from (Or.inr rfl)) rfl rfl rfl) rfl hl rfl (Nat.le_of_ble_eq_true rfl) dX0_take_69 ⟨Nat.le_of_ble_eq_true rfl, Nat.le_of_ble_eq_true rfl⟩ (fun u_69 H locs hp hG hS => ?_)
          subst hp
          exact zm_vret hx hb hr hlocks hG hS (by omega) (by omega) (by first | rfl | (simp only [zs_take]; rw [if_neg (by rintro ⟨h4, h5, h6⟩; omega)]) | (simp only [zs_take]; rw [if_pos ⟨by omega, by omega, by omega⟩] <;> rfl)) dX0_take_72
      · exact zm_vret hx hb hr hlocks hG hS (by omega) (by omega) (by first | rfl | (simp only [zs_take]; rw [if_neg (by rintro ⟨h4, h5, h6⟩; omega)]) | (simp only [zs_take]; rw [if_pos ⟨by omega, by omega, by omega⟩] <;> rfl)) dX0_take_29

set_option maxRecDepth 100000 in
set_option maxHeartbeats 4000000 in
theorem c_X0_takeForAll (l : Launch) {E : za_E} {b : Nat} {ad : za_Ad} {S X T Y : za_S} {ow : Int64} {dw : UInt64} (ly : Nat) (L : List Nat) (w : zs_W) (hsc : zs_sc X L w) (hL : ∀ x, x ∈ L → x < X.1 5 0 0 ∧ x < 10) (hLn : L.length ≤ 10) (h1 : 1 ≤ ly) (h3 : ly ≤ 3) (hBX : zs_B X) (hBS : zs_B S) : Met l yX0_takeForAll wsX0_takeForAll ({ frames := 2, cells := 0, slots := 0, locals := 46 } : Room) (za_Pc E b (ad, S, X, T, Y, ow, dw) [.ref (ad 4 0), .int (nI ly)]) (za_Qv E b (fun u => ∃ X2, u = (ad, S, X2, T, Y, ow, dw) ∧ zs_fr X X2 ∧ zs_B X2 ∧ zs_sc X2 L (zs_fa S ly L w))) (0) (0) (za_A b) := by
  refine zm_met (ccm := cX0_takeForAll) (maxL := 3) (ret := none) (ws' := _) (own := RX0) (lv := [(0, .ref (ad 4 0)), (1, .int (nI ly))]) (by decide) rfl rfl rfl (by simp [lg_sl, Value.category]) ?_
  intro pg en s m below meth c hx hb hml hr hown hts hlocks hK hZ hb0 hG hS ls hl
  have hf50 := hts (.fieldLink RX0 50 "VideoBridge$Chooser" "lineLength" "I") (by decide +kernel)
  have hinX0 : ∀ w ∈ u_ws RX0 TX0 4, w ∈ wsX0_takeForAll := by decide +kernel
  skip
  refine zb_iconst (n := 0) hx hb dX0_takeForAll_0 (by decide) ?_
  refine lv_istore_n (lv' := [(2, .int (nI 0)), (0, .ref (ad 4 0)), (1, .int (nI ly))]) hx hb dX0_takeForAll_1 rfl hl (by decide) rfl (fun ls hl => ?_)
  have loop2 : ∀ (N : Nat) (X1 : za_S) (i : Nat), (i ≤ L.length) → (zs_fr X X1) → (zs_B X1) → (zs_sc X1 L (zs_fa S ly (L.take i) w)) → L.length - i < N → ∀ (H : Heap) (locs : List Loc), za_G E b (ad, S, X1, T, Y, ow, dw) H → va_S (za_A b) s.heap H locs → ∀ ls : Array Slot, lv_has ls 3 [(0, .ref (ad 4 0)), (1, .int (nI ly)), (2, .int (nI i))] → W pg l en ({ frames := 2, cells := 0, slots := 0, locals := 46 } : Room) s m ([.ref (ad 4 0), .int (nI ly)] : List Value).toArray below meth c H locs (0) (0) (MQ below (za_Qv E b (fun u => ∃ X2, u = (ad, S, X2, T, Y, ow, dw) ∧ zs_fr X X2 ∧ zs_B X2 ∧ zs_sc X2 L (zs_fa S ly L w))) ([.ref (ad 4 0), .int (nI ly)] : List Value).toArray s (0) (0) (za_A b)) (F0 m 2 ls []) := by
    intro N
    induction N with
    | zero => intro X1 i hi hfr1 hB1 hsc1 hN; exact absurd hN (Nat.not_lt_zero _)
    | succ N ih2 =>
      intro X1 i hi hfr1 hB1 hsc1 hN H locs hG hS ls hl
      refine lv_iload_n hx hb dX0_takeForAll_2 rfl (lv_at hl 2 rfl) ?_
      refine lv_aload_n hx hb dX0_takeForAll_3 rfl (lv_at hl 0 rfl) ?_
      refine zg_CH_lineLength hx hb hts hinX0 hown hf50 hK hG (n := L.length) hsc1.1 dX0_takeForAll_4 ?_
      refine zb_icmp_ge (x := i) (y := L.length) (tgt := 26) hx hb (by omega) (by omega) dX0_takeForAll_7 (by decide) (fun c_7 => ?_) (fun c_7 => ?_)
      · obtain rfl : i = L.length := by omega
        exact zm_vret hx hb hr hlocks hG hS (by omega) (by omega) ⟨X1, rfl, hfr1, hB1, by rw [List.take_length] at hsc1; exact hsc1⟩ dX0_takeForAll_26
      · refine lv_aload_n hx hb dX0_takeForAll_10 rfl (lv_at hl 0 rfl) ?_
        refine lv_aload_n hx hb dX0_takeForAll_11 rfl (lv_at hl 0 rfl) ?_
        refine lv_iload_n hx hb dX0_takeForAll_12 rfl (lv_at hl 2 rfl) ?_
        refine zc_Vq (κ := 8) (As := [.int (nI i)]) (rest := [.ref (ad 4 0)]) hK hZ hb0 hG hS hx hb hml hown hts (c_X0_inLine l i (by omega) hB1 hBS) (cwV 1 hts gX0_takeForAll_X0_inLine rfl rfl rfl (by decide +kernel) ⟨Nat.le_of_ble_eq_true rfl, Nat.le_of_ble_eq_true rfl⟩) (za_recv (q := (RX0, TX0, 4)) hK hG 4 0 ⟨by omega, rfl⟩ rfl rfl rfl) rfl hl rfl (Nat.le_of_ble_eq_true rfl) dX0_takeForAll_13 ⟨Nat.le_of_ble_eq_true rfl, Nat.le_of_ble_eq_true rfl⟩ (fun r_13 u_13 H locs hp hG hS => ?_)
        obtain ⟨hr, rfl⟩ := hp
        have hi2 : i < L.length := c_7
        obtain ⟨y, hy⟩ : ∃ y, y = L[i]'hi2 := ⟨_, rfl⟩
        have hyL : y ∈ L := by rw [hy]; exact List.getElem_mem hi2
        have hr2 : r_13 = some y := by rw [hr, if_pos ⟨by rw [hsc1.1]; exact hi2, by omega⟩, hsc1.2.1 i hi2, List.getElem?_eq_getElem hi2, hy]
        subst hr2
        have hyv : y < X1.1 5 0 0 := by rw [hfr1.c5]; exact (hL y hyL).1
        refine lv_iload_n hx hb dX0_takeForAll_16 rfl (lv_at hl 1 rfl) ?_
        refine zc_Vv (As := [.ref (ad 8 y), .int (nI ly)]) (rest := []) hK hZ hb0 hG hS hx hb hml hown hts (c_X0_take l (some y) ly (by rintro _ ⟨⟩; exact hyv) (by rintro _ ⟨⟩; exact (hL y hyL).2) h1 h3 hB1 hBS) (cwV 2 hts gX0_takeForAll_X0_take rfl rfl rfl (by decide +kernel) ⟨Nat.le_of_ble_eq_true rfl, Nat.le_of_ble_eq_true rfl⟩) (za_recv (q := (RX0, TX0, 4)) hK hG 4 0 ⟨by omega, rfl⟩ rfl rfl rfl) rfl hl rfl (Nat.le_of_ble_eq_true rfl) dX0_takeForAll_17 ⟨Nat.le_of_ble_eq_true rfl, Nat.le_of_ble_eq_true rfl⟩ (fun u_17 H locs hp hG hS => ?_)
        subst hp
        refine zb_iinc (n := 1) (k := 2) (lv' := [(2, .int (nI (i + 1))), (0, .ref (ad 4 0)), (1, .int (nI ly))]) hx hb dX0_takeForAll_20 hl rfl (by decide) (by decide) rfl (fun ls hl => ?_)
        refine zb_goto (tgt := 2) hx hb dX0_takeForAll_23 (by decide) ?_
        exact ih2 (zs_take S X1 (some y) ly) (i + 1) (by omega) (hfr1.tr (zs_take_fr _ _ _ _)) (zs_take_B hB1 _ (by omega)) (by rw [zs_fa_take S ly L w hi2, ← hy]; exact zs_take_sc hsc1 (hL y hyL).2 ly) (by omega) _ _ hG hS ls (lv_sub hl [1, 2, 0] rfl)
  exact loop2 (_ + 1) X 0 (Nat.zero_le _) (zs_fr.rf X) hBX hsc (Nat.lt_succ_self _) _ _ hG hS ls (lv_sub hl [1, 2, 0] rfl)

set_option maxRecDepth 100000 in
set_option maxHeartbeats 4000000 in
theorem c_X4_at (l : Launch) {E : za_E} {b : Nat} {ad : za_Ad} {S X T Y : za_S} {ow : Int64} {dw : UInt64} (r n : Nat) (hr9 : r < X.1 5 1 0) (hn : n < 2 ^ 31) (hBX : zs_B X) (hBS : zs_B S) : Met l yX4_at wsX4_at ({ frames := 0, cells := 0, slots := 0, locals := 0 } : Room) (za_Pc E b (ad, S, X, T, Y, ow, dw) [.ref (ad 9 r), .int (nI n)]) (za_Qq E b 8 (fun r9 u => r9 = zs_at S r n ∧ u = (ad, S, X, T, Y, ow, dw))) (0) (0) (za_A b) := by
  refine zm_met (ccm := cX4_at) (maxL := 2) (ret := (some (.object "VideoBridge$Person"))) (ws' := _) (own := RX4) (lv := [(0, .ref (ad 9 r)), (1, .int (nI n))]) (by decide) rfl rfl rfl (by simp [lg_sl, Value.category]) ?_
  intro pg en s m below meth c hx hb hml hr hown hts hlocks hK hZ hb0 hG hS ls hl
  have hf11 := hts (.fieldLink RX4 11 "VideoBridge$Room" "order" "[LVideoBridge$Person;") (by decide +kernel)
  have hf21 := hts (.fieldLink RX4 21 "VideoBridge$Room" "size" "I") (by decide +kernel)
  have hinX4 : ∀ w ∈ u_ws RX4 TX4 6, w ∈ wsX4_at := by decide +kernel
  skip
  refine lv_iload_n hx hb dX4_at_0 rfl (lv_at hl 1 rfl) ?_
  refine zb_if_lt (x := n) (tgt := 21) hx hb (by omega) dX4_at_1 (by decide) ?_
  refine lv_iload_n hx hb dX4_at_4 rfl (lv_at hl 1 rfl) ?_
  refine lv_aload_n hx hb dX4_at_5 rfl (lv_at hl 0 rfl) ?_
  refine zg_RM_size hx hb hts hinX4 hown hf21 hK hG r hr9 (n := S.1 5 r 0) rfl dX4_at_6 ?_
  refine zb_icmp_ge (x := n) (y := S.1 5 r 0) (tgt := 21) hx hb (by omega) (by have := hBS 5 r 0; omega) dX4_at_9 (by decide) (fun c_9 => ?_) (fun c_9 => ?_)
  · refine lv_null hx hb dX4_at_21 ?_
    refine zb_goto (tgt := 31) hx hb dX4_at_22 (by decide) ?_
    exact zm_qret (r := none) hx hb hr hlocks hG hS (by omega) (by omega) ⟨by unfold zs_at; first | rw [if_neg (by omega)] | rw [if_pos (by omega)], rfl⟩ dX4_at_31
  · refine lv_iload_n hx hb dX4_at_12 rfl (lv_at hl 1 rfl) ?_
    refine lv_aload_n hx hb dX4_at_13 rfl (lv_at hl 0 rfl) ?_
    refine zg_RM_order hx hb hts hinX4 hown hf11 hK hG r hr9 dX4_at_14 ?_
    refine zl_OR hx hb hK hG r hr9 dX4_at_17 ?_
    refine zb_icmp_lt (x := n) (y := 10) (tgt := 25) hx hb (by omega) (by omega) dX4_at_18 (by decide) (fun c_18 => ?_) (fun c_18 => ?_)
    · refine lv_aload_n hx hb dX4_at_25 rfl (lv_at hl 0 rfl) ?_
      refine zg_RM_order hx hb hts hinX4 hown hf11 hK hG r hr9 dX4_at_26 ?_
      refine lv_iload_n hx hb dX4_at_29 rfl (lv_at hl 1 rfl) ?_
      refine zld_OR (r := S.2 2 r n) hx hb hK hG r hr9 (by omega) rfl dX4_at_30 ?_
      exact zm_qret (r := S.2 2 r n) hx hb hr hlocks hG hS (by omega) (by omega) ⟨by unfold zs_at; first | rw [if_neg (by omega)] | rw [if_pos (by omega)], rfl⟩ dX4_at_31
    · refine lv_null hx hb dX4_at_21 ?_
      refine zb_goto (tgt := 31) hx hb dX4_at_22 (by decide) ?_
      exact zm_qret (r := none) hx hb hr hlocks hG hS (by omega) (by omega) ⟨by unfold zs_at; first | rw [if_neg (by omega)] | rw [if_pos (by omega)], rfl⟩ dX4_at_31

set_option maxRecDepth 100000 in
set_option maxHeartbeats 4000000 in
theorem c_X0_lineUp (l : Launch) {E : za_E} {b : Nat} {ad : za_Ad} {S X T Y : za_S} {ow : Int64} {dw : UInt64} (v : Nat) (w : zs_W) (hv : v < X.1 5 0 0) (hw1 : ∀ p, p < 10 → X.1 0 10 p = w.1 p) (hw2 : X.1 2 0 0 = w.2) (hro : ∀ r, S.2 0 v 0 = some r → r < X.1 5 1 0) (hpe : ∀ r i x, S.2 2 r i = some x → x < X.1 5 0 0) (hfi : ∀ r x, S.2 0 v 0 = some r → zs_first S v r = some x → x < X.1 5 0 0) (hcap : ∀ r i, S.2 0 v 0 = some r → i ≤ S.1 5 r 0 → (zs_rest S v r i).length < 10) (hsz : ∀ r, S.2 0 v 0 = some r → S.1 5 r 0 ≤ 10) (hBX : zs_B X) (hBS : zs_B S) : Met l yX0_lineUp wsX0_lineUp ({ frames := 2, cells := 0, slots := 0, locals := 42 } : Room) (za_Pc E b (ad, S, X, T, Y, ow, dw) [.ref (ad 4 0), .ref (ad 8 v)]) (za_Qv E b (fun u => ∃ X2, u = (ad, S, X2, T, Y, ow, dw) ∧ zs_fr X X2 ∧ zs_B X2 ∧ zs_sc X2 (zs_ln S v) w)) (0) (0) (za_A b) := by
  refine zm_met (ccm := cX0_lineUp) (maxL := 6) (ret := none) (ws' := _) (own := RX0) (lv := [(0, .ref (ad 4 0)), (1, .ref (ad 8 v))]) (by decide) rfl rfl rfl (by simp [lg_sl, Value.category]) ?_
  intro pg en s m below meth c hx hb hml hr hown hts hlocks hK hZ hb0 hG hS ls hl
  have hf50 := hts (.fieldLink RX0 50 "VideoBridge$Chooser" "lineLength" "I") (by decide +kernel)
  have hf53 := hts (.fieldLink RX0 53 "VideoBridge$Person" "room" "LVideoBridge$Room;") (by decide +kernel)
  have hf57 := hts (.fieldLink RX0 57 "VideoBridge$Person" "pinned" "LVideoBridge$Person;") (by decide +kernel)
  have hf61 := hts (.fieldLink RX0 61 "VideoBridge$Room" "speaker" "LVideoBridge$Person;") (by decide +kernel)
  have hf70 := hts (.fieldLink RX0 70 "VideoBridge$Room" "size" "I") (by decide +kernel)
  have hinX0 : ∀ w ∈ u_ws RX0 TX0 4, w ∈ wsX0_lineUp := by decide +kernel
  have hinX2 : ∀ w ∈ u_ws RX2 TX2 8, w ∈ wsX0_lineUp := by decide +kernel
  have hinX4 : ∀ w ∈ u_ws RX4 TX4 6, w ∈ wsX0_lineUp := by decide +kernel
  skip
  refine lv_aload_n hx hb dX0_lineUp_0 rfl (lv_at hl 0 rfl) ?_
  refine zb_iconst (n := 0) hx hb dX0_lineUp_1 (by decide) ?_
  refine zp_CH_lineLength hx hb hts hinX0 hown hf50 hS hK hG dX0_lineUp_2 (fun H locs hG hS => ?_)
  refine lv_aload_n hx hb dX0_lineUp_5 rfl (lv_at hl 1 rfl) ?_
  refine zg_PE_room hx hb hts hinX2 hown hf53 hK hG v hv (r := S.2 0 v 0) rfl dX0_lineUp_6 ?_
  refine zb_ostore_n (ad := ad) (κ := 9) (r := S.2 0 v 0) (lv' := [(2, za_o ad 9 (S.2 0 v 0)), (0, .ref (ad 4 0)), (1, .ref (ad 8 v))]) hx hb dX0_lineUp_9 rfl hl (by decide) rfl (fun ls hl => ?_)
  refine zb_oload_n hx hb dX0_lineUp_10 rfl (lv_at hl 0 rfl) ?_
  refine zb_ifnonnull (κ := 9) (r := S.2 0 v 0) (tgt := 15) hx hb dX0_lineUp_11 (by decide) (fun x_1 c_11 => ?_) (fun c_11 => ?_)
  · rw [c_11] at hl
    have cut33 : W pg l en ({ frames := 2, cells := 0, slots := 0, locals := 42 } : Room) s m ([.ref (ad 4 0), .ref (ad 8 v)] : List Value).toArray below meth c H locs (0) (0) (MQ below (za_Qv E b (fun u => ∃ X2, u = (ad, S, X2, T, Y, ow, dw) ∧ zs_fr X X2 ∧ zs_B X2 ∧ zs_sc X2 (zs_ln S v) w)) ([.ref (ad 4 0), .ref (ad 8 v)] : List Value).toArray s (0) (0) (za_A b)) (F0 m 33 ls [za_o ad 8 (zs_first S v x_1)]) := by
      refine zb_ostore_n (ad := ad) (κ := 8) (r := zs_first S v x_1) (lv' := [(3, za_o ad 8 (zs_first S v x_1)), (2, .ref (ad 9 x_1)), (0, .ref (ad 4 0)), (1, .ref (ad 8 v))]) hx hb dX0_lineUp_33 rfl hl (by decide) rfl (fun ls hl => ?_)
      refine lv_aload_n hx hb dX0_lineUp_34 rfl (lv_at hl 2 rfl) ?_
      refine zb_oload_n hx hb dX0_lineUp_35 rfl (lv_at hl 0 rfl) ?_
      refine lv_aload_n hx hb dX0_lineUp_36 rfl (lv_at hl 3 rfl) ?_
      refine zc_Vv (As := [za_o ad 8 (zs_first S v x_1), .ref (ad 8 v)]) (rest := []) hK hZ hb0 hG hS hx hb hml hown hts (c_X0_append l (zs_first S v x_1) v (fun y hy => hfi x_1 y c_11 hy) hv (zs_N_B hBX (by omega)) hBS) (cwV 2 hts gX0_lineUp_X0_append rfl rfl rfl (by decide +kernel) ⟨Nat.le_of_ble_eq_true rfl, Nat.le_of_ble_eq_true rfl⟩) (za_recv (q := (RX0, TX0, 4)) hK hG 4 0 ⟨by omega, rfl⟩ rfl rfl rfl) rfl hl rfl (Nat.le_of_ble_eq_true rfl) dX0_lineUp_37 ⟨Nat.le_of_ble_eq_true rfl, Nat.le_of_ble_eq_true rfl⟩ (fun u_37 H locs hp hG hS => ?_)
      subst hp
      refine zb_iconst (n := 0) hx hb dX0_lineUp_40 (by decide) ?_
      refine lv_istore (lv' := [(4, .int (nI 0)), (3, za_o ad 8 (zs_first S v x_1)), (2, .ref (ad 9 x_1)), (0, .ref (ad 4 0)), (1, .ref (ad 8 v))]) hx hb dX0_lineUp_41 hl (by decide) (by first | rfl | (simp [za_cat]; done) | (simp [za_cat]; rfl)) (fun ls hl => ?_)
      have loop43 : ∀ (N : Nat) (X1 : za_S) (i : Nat), (i ≤ S.1 5 x_1 0) → (zs_fr X X1) → (zs_B X1) → (zs_sc X1 (zs_rest S v x_1 i) w) → S.1 5 x_1 0 - i < N → ∀ (H : Heap) (locs : List Loc), za_G E b (ad, S, X1, T, Y, ow, dw) H → va_S (za_A b) s.heap H locs → ∀ ls : Array Slot, lv_has ls 6 [(0, .ref (ad 4 0)), (1, .ref (ad 8 v)), (2, .ref (ad 9 x_1)), (3, za_o ad 8 (zs_first S v x_1)), (4, .int (nI i))] → W pg l en ({ frames := 2, cells := 0, slots := 0, locals := 42 } : Room) s m ([.ref (ad 4 0), .ref (ad 8 v)] : List Value).toArray below meth c H locs (0 + 0) (0 + 0) (MQ below (za_Qv E b (fun u => ∃ X2, u = (ad, S, X2, T, Y, ow, dw) ∧ zs_fr X X2 ∧ zs_B X2 ∧ zs_sc X2 (zs_ln S v) w)) ([.ref (ad 4 0), .ref (ad 8 v)] : List Value).toArray s (0) (0) (za_A b)) (F0 m 43 ls []) := by
        intro N
        induction N with
        | zero => intro X1 i hi hfr1 hB1 hsc1 hN; exact absurd hN (Nat.not_lt_zero _)
        | succ N ih43 =>
          intro X1 i hi hfr1 hB1 hsc1 hN H locs hG hS ls hl
          have hz9 := hsz x_1 c_11
          refine lv_iload hx hb dX0_lineUp_43 (lv_at hl 4 rfl) ?_
          refine lv_aload_n hx hb dX0_lineUp_45 rfl (lv_at hl 2 rfl) ?_
          refine zg_RM_size hx hb hts hinX4 hown hf70 hK hG x_1 (by first | exact hro x_1 c_11 | (rw [hfr1.c5]; exact hro x_1 c_11)) (n := S.1 5 x_1 0) rfl dX0_lineUp_46 ?_
          refine zb_icmp_ge (x := i) (y := S.1 5 x_1 0) (tgt := 79) hx hb (by omega) (by have := hBS 5 x_1 0; omega) dX0_lineUp_49 (by decide) (fun c_49 => ?_) (fun c_49 => ?_)
          · obtain rfl : i = S.1 5 x_1 0 := by omega
            exact zm_vret hx hb hr hlocks hG hS (by omega) (by omega) ⟨X1, rfl, hfr1, hB1, by simp only [zs_ln, c_11]; exact hsc1⟩ dX0_lineUp_79
          · refine lv_aload_n hx hb dX0_lineUp_52 rfl (lv_at hl 2 rfl) ?_
            refine lv_iload hx hb dX0_lineUp_53 (lv_at hl 4 rfl) ?_
            refine zc_Vq (κ := 8) (As := [.int (nI i)]) (rest := []) hK hZ hb0 hG hS hx hb hml hown hts (c_X4_at l x_1 i (by rw [hfr1.c5]; exact hro x_1 c_11) (by omega) hB1 hBS) (cwV 1 hts gX0_lineUp_X4_at rfl rfl rfl (by decide +kernel) ⟨Nat.le_of_ble_eq_true rfl, Nat.le_of_ble_eq_true rfl⟩) (za_recv (q := (RX4, TX4, 6)) hK hG 9 x_1 (show x_1 < X1.1 5 1 0 from (by first | exact hro x_1 c_11 | (rw [hfr1.c5]; exact hro x_1 c_11))) rfl rfl rfl) rfl hl rfl (Nat.le_of_ble_eq_true rfl) dX0_lineUp_55 ⟨Nat.le_of_ble_eq_true rfl, Nat.le_of_ble_eq_true rfl⟩ (fun r_55 u_55 H locs hp hG hS => ?_)
            obtain ⟨hr, rfl⟩ := hp
            have hr2 : r_55 = S.2 2 x_1 i := by rw [hr]; exact if_pos ⟨by omega, by omega⟩
            subst hr2
            refine zb_ostore (ad := ad) (κ := 8) (r := S.2 2 x_1 i) (lv' := [(5, za_o ad 8 (S.2 2 x_1 i)), (0, .ref (ad 4 0)), (1, .ref (ad 8 v)), (2, .ref (ad 9 x_1)), (3, za_o ad 8 (zs_first S v x_1)), (4, .int (nI i))]) hx hb dX0_lineUp_58 hl (by decide) rfl (fun ls hl => ?_)
            refine zb_oload hx hb dX0_lineUp_60 (lv_at hl 0 rfl) ?_
            refine zb_oload_n hx hb dX0_lineUp_62 rfl (lv_at hl 4 rfl) ?_
            refine zb_acmp_eq (tgt := 73) hx hb hG 8 (by decide) (S.2 2 x_1 i) (zs_first S v x_1) (fun y hy => by show y < _; rw [hfr1.c5]; exact hpe _ _ _ hy) (fun y hy => by show y < _; first | exact hfi x_1 y c_11 hy | (rw [hfr1.c5]; exact hfi x_1 y c_11 hy)) dX0_lineUp_63 (by decide) (fun c_63 => ?_) (fun c_63 => ?_)
            · refine zb_iinc (n := 1) (k := 5) (lv' := [(4, .int (nI (i + 1))), (5, za_o ad 8 (S.2 2 x_1 i)), (0, .ref (ad 4 0)), (1, .ref (ad 8 v)), (2, .ref (ad 9 x_1)), (3, za_o ad 8 (zs_first S v x_1))]) hx hb dX0_lineUp_73 hl rfl (by decide) (by decide) (by first | rfl | (simp [za_cat]; done) | (simp [za_cat]; rfl)) (fun ls hl => ?_)
              refine zb_goto (tgt := 43) hx hb dX0_lineUp_76 (by decide) ?_
              exact ih43 X1 (i + 1) (by omega) hfr1 hB1 (by rw [zs_rest, if_pos c_63]; exact hsc1) (by omega) _ _ hG hS ls (lv_sub hl [2, 3, 4, 5, 0] rfl)
            · refine lv_aload_n hx hb dX0_lineUp_66 rfl (lv_at hl 1 rfl) ?_
              refine zb_oload hx hb dX0_lineUp_67 (lv_at hl 0 rfl) ?_
              refine lv_aload_n hx hb dX0_lineUp_69 rfl (lv_at hl 2 rfl) ?_
              refine zc_Vv (As := [za_o ad 8 (S.2 2 x_1 i), .ref (ad 8 v)]) (rest := []) hK hZ hb0 hG hS hx hb hml hown hts (c_X0_append l (S.2 2 x_1 i) v (fun y hy => by rw [hfr1.c5]; exact hpe _ _ _ hy) (by rw [hfr1.c5]; exact hv) hB1 hBS) (cwV 2 hts gX0_lineUp_X0_append rfl rfl rfl (by decide +kernel) ⟨Nat.le_of_ble_eq_true rfl, Nat.le_of_ble_eq_true rfl⟩) (za_recv (q := (RX0, TX0, 4)) hK hG 4 0 ⟨by omega, rfl⟩ rfl rfl rfl) rfl hl rfl (Nat.le_of_ble_eq_true rfl) dX0_lineUp_70 ⟨Nat.le_of_ble_eq_true rfl, Nat.le_of_ble_eq_true rfl⟩ (fun u_70 H locs hp hG hS => ?_)
              subst hp
              refine zb_iinc (n := 1) (k := 5) (lv' := [(4, .int (nI (i + 1))), (5, za_o ad 8 (S.2 2 x_1 i)), (0, .ref (ad 4 0)), (1, .ref (ad 8 v)), (2, .ref (ad 9 x_1)), (3, za_o ad 8 (zs_first S v x_1))]) hx hb dX0_lineUp_73 hl rfl (by decide) (by decide) (by first | rfl | (simp [za_cat]; done) | (simp [za_cat]; rfl)) (fun ls hl => ?_)
              refine zb_goto (tgt := 43) hx hb dX0_lineUp_76 (by decide) ?_
              exact ih43 (zs_app X1 (S.2 2 x_1 i) v) (i + 1) (by omega) (hfr1.tr (zs_app_fr _ _ _)) (zs_app_B hB1 _ _) (by rw [zs_rest, if_neg c_63]; exact zs_app_sc hsc1 _ _ (Or.inr (Or.inr (hcap x_1 i c_11 (by omega))))) (by omega) _ _ hG hS ls (lv_sub hl [2, 3, 4, 5, 0] rfl)
      have hsc0 : zs_sc (za_N X 1 0 0 0) [] w := ⟨by simp [za_N], fun j hj => absurd hj (Nat.not_lt_zero _), fun p hp => by simp [za_N, hw1 p hp], by simp [za_N, hw2]⟩
      exact loop43 (_ + 1) (zs_app (za_N X 1 0 0 0) (zs_first S v x_1) v) 0 (Nat.zero_le _) ((zs_fr_N1 X 0).tr (zs_app_fr _ _ _)) (zs_app_B (zs_N_B hBX (by omega)) _ _) (zs_app_sc hsc0 _ _ (Or.inr (Or.inr (by decide)))) (Nat.lt_succ_self _) _ _ hG hS ls (lv_sub hl [3, 4, 2, 1, 0] rfl)
    refine lv_aload_n hx hb dX0_lineUp_15 rfl (lv_at hl 2 rfl) ?_
    refine zg_PE_pinned hx hb hts hinX2 hown hf57 hK hG v hv (r := S.2 1 v 0) rfl dX0_lineUp_16 ?_
    refine zb_ifnull (κ := 8) (r := S.2 1 v 0) (tgt := 29) hx hb dX0_lineUp_19 (by decide) (fun c_19 => ?_) (fun x_2 c_19 => ?_)
    · refine lv_aload_n hx hb dX0_lineUp_29 rfl (lv_at hl 0 rfl) ?_
      refine zg_RM_speaker hx hb hts hinX4 hown hf61 hK hG x_1 (by first | exact hro x_1 c_11 | (rw [hfr1.c5]; exact hro x_1 c_11)) (r := S.2 3 x_1 0) rfl dX0_lineUp_30 ?_
      have e33 : S.2 3 x_1 0 = zs_first S v x_1 := by simp [zs_first, c_19]
      rw [e33]
      exact cut33
    · refine lv_aload_n hx hb dX0_lineUp_22 rfl (lv_at hl 2 rfl) ?_
      refine zg_PE_pinned hx hb hts hinX2 hown hf57 hK hG v hv (r := some x_2) c_19 dX0_lineUp_23 ?_
      refine zb_goto (tgt := 33) hx hb dX0_lineUp_26 (by decide) ?_
      have e33 : x_2 = zs_first S v x_1 := by simp [zs_first, c_19]
      rw [e33]
      exact cut33
  · rw [c_11] at hl
    exact zm_vret hx hb hr hlocks hG hS (by omega) (by omega) ⟨_, rfl, zs_fr_N1 X 0, zs_N_B hBX (by omega), by
          simp only [zs_ln, c_11]
          exact ⟨by simp [za_N], fun j hj => absurd hj (Nat.not_lt_zero _), fun p hp => by simp [za_N, hw1 p hp], by simp [za_N, hw2]⟩⟩ dX0_lineUp_14

set_option maxRecDepth 100000 in
set_option maxHeartbeats 4000000 in
theorem c_X0_choose (l : Launch) {E : za_E} {b : Nat} {ad : za_Ad} {S X T Y : za_S} {ow : Int64} {dw : UInt64} (v : Nat) (hV : zs_V S (X.1 5 0 0) (X.1 5 1 0) v) (hBX : zs_B X) (hBS : zs_B S) : Met l yX0_choose wsX0_choose ({ frames := 3, cells := 0, slots := 0, locals := 68 } : Room) (za_Pc E b (ad, S, X, T, Y, ow, dw) [.ref (ad 4 0), .ref (ad 8 v)]) (za_Qv E b (fun u => ∃ X2, u = (ad, S, X2, T, Y, ow, dw) ∧ zs_fr X X2 ∧ zs_B X2 ∧ ∀ p, p < 10 → X2.1 0 10 p = (zs_ch S v).1 p)) (0) (0) (za_A b) := by
  refine zm_met (ccm := cX0_choose) (maxL := 2) (ret := none) (ws' := _) (own := RX0) (lv := [(0, .ref (ad 4 0)), (1, .ref (ad 8 v))]) (by decide) rfl rfl rfl (by simp [lg_sl, Value.category]) ?_
  intro pg en s m below meth c hx hb hml hr hown hts hlocks hK hZ hb0 hG hS ls hl
  have hf12 := hts (.fieldLink RX0 12 "VideoBridge$Chooser" "chosen" "LVideoBridge$Layers;") (by decide +kernel)
  have hf27 := hts (.fieldLink RX0 27 "VideoBridge$Person" "budget" "I") (by decide +kernel)
  have hf31 := hts (.fieldLink RX0 31 "VideoBridge$Chooser" "left" "I") (by decide +kernel)
  have hinX0 : ∀ w ∈ u_ws RX0 TX0 4, w ∈ wsX0_choose := by decide +kernel
  have hinX2 : ∀ w ∈ u_ws RX2 TX2 8, w ∈ wsX0_choose := by decide +kernel
  skip
  have hLx : ∀ x, x ∈ zs_ln S v → x < 10 := fun x hx => (hV.L x hx).2
  have hLl := hV.len
  have hb0S := hBS 1 v 0
  refine lv_aload_n hx hb dX0_choose_0 rfl (lv_at hl 0 rfl) ?_
  refine zg_CH_chosen hx hb hts hinX0 hown hf12 hK hG dX0_choose_1 ?_
  refine zc_Vv (As := []) (rest := []) hK hZ hb0 hG hS hx hb hml hown hts (c_X1_clear l 10 (Or.inr rfl)) (cwV 0 hts gX0_choose_X1_clear rfl rfl rfl (by decide +kernel) ⟨Nat.le_of_ble_eq_true rfl, Nat.le_of_ble_eq_true rfl⟩) (za_recv (q := (RX1, TX1, 1)) hK hG 6 10 (show 10 < X.1 5 0 0 ∨ 10 = 10 from (Or.inr rfl)) rfl rfl rfl) rfl hl rfl (Nat.le_of_ble_eq_true rfl) dX0_choose_4 ⟨Nat.le_of_ble_eq_true rfl, Nat.le_of_ble_eq_true rfl⟩ (fun u_4 H locs hp hG hS => ?_)
  subst hp
  refine lv_aload_n hx hb dX0_choose_7 rfl (lv_at hl 0 rfl) ?_
  refine lv_aload_n hx hb dX0_choose_8 rfl (lv_at hl 1 rfl) ?_
  refine zg_PE_budget hx hb hts hinX2 hown hf27 hK hG v hV.1 (n := S.1 1 v 0) rfl dX0_choose_9 ?_
  refine zp_CH_left hx hb hts hinX0 hown hf31 hS hK hG dX0_choose_12 (fun H locs hG hS => ?_)
  refine lv_aload_n hx hb dX0_choose_15 rfl (lv_at hl 0 rfl) ?_
  refine lv_aload_n hx hb dX0_choose_16 rfl (lv_at hl 1 rfl) ?_
  refine zc_Vv (As := [.ref (ad 8 v)]) (rest := []) hK hZ hb0 hG hS hx hb hml hown hts (c_X0_lineUp l v ((fun _ => 0, S.1 1 v 0) : zs_W) hV.1 (fun p hp => by simp [za_N, zs_row, hp]) (by simp [za_N]) hV.2.1 hV.2.2.1 hV.2.2.2.1 hV.2.2.2.2.1 hV.2.2.2.2.2.1 (zs_N_B (zs_row_B hBX (fun _ => by decide)) hb0S) hBS) (cwV 1 hts gX0_choose_X0_lineUp rfl rfl rfl (by decide +kernel) ⟨Nat.le_of_ble_eq_true rfl, Nat.le_of_ble_eq_true rfl⟩) (za_recv (q := (RX0, TX0, 4)) hK hG 4 0 ⟨by omega, rfl⟩ rfl rfl rfl) rfl hl rfl (Nat.le_of_ble_eq_true rfl) dX0_choose_17 ⟨Nat.le_of_ble_eq_true rfl, Nat.le_of_ble_eq_true rfl⟩ (fun u_17 H locs hp hG hS => ?_)
  obtain ⟨X2, rfl, f2, b2, s2⟩ := hp
  have g2 : zs_fr X X2 := ((zs_fr_row X 10 _).tr (zs_fr_N2 _ _)).tr f2
  have L2 : ∀ x, x ∈ zs_ln S v → x < X2.1 5 0 0 ∧ x < 10 := by rw [g2.c5]; exact hV.L
  refine lv_aload_n hx hb dX0_choose_20 rfl (lv_at hl 0 rfl) ?_
  refine zb_iconst (n := 1) hx hb dX0_choose_21 (by decide) ?_
  refine zc_Vv (As := [.int (nI 1)]) (rest := []) hK hZ hb0 hG hS hx hb hml hown hts (c_X0_takeForAll l 1 (zs_ln S v) _ s2 L2 hLl (by decide) (by decide) b2 hBS) (cwV 1 hts gX0_choose_X0_takeForAll rfl rfl rfl (by decide +kernel) ⟨Nat.le_of_ble_eq_true rfl, Nat.le_of_ble_eq_true rfl⟩) (za_recv (q := (RX0, TX0, 4)) hK hG 4 0 ⟨by omega, rfl⟩ rfl rfl rfl) rfl hl rfl (Nat.le_of_ble_eq_true rfl) dX0_choose_22 ⟨Nat.le_of_ble_eq_true rfl, Nat.le_of_ble_eq_true rfl⟩ (fun u_22 H locs hp hG hS => ?_)
  obtain ⟨X3, rfl, f3, b3, s3⟩ := hp
  have g3 := g2.tr f3
  have L3 : ∀ x, x ∈ zs_ln S v → x < X3.1 5 0 0 ∧ x < 10 := by rw [g3.c5]; exact hV.L
  refine lv_aload_n hx hb dX0_choose_25 rfl (lv_at hl 0 rfl) ?_
  refine lv_aload_n hx hb dX0_choose_26 rfl (lv_at hl 0 rfl) ?_
  refine zb_iconst (n := 0) hx hb dX0_choose_27 (by decide) ?_
  refine zc_Vq (κ := 8) (As := [.int (nI 0)]) (rest := [.ref (ad 4 0)]) hK hZ hb0 hG hS hx hb hml hown hts (c_X0_inLine l 0 (by decide) b3 hBS) (cwV 1 hts gX0_choose_X0_inLine rfl rfl rfl (by decide +kernel) ⟨Nat.le_of_ble_eq_true rfl, Nat.le_of_ble_eq_true rfl⟩) (za_recv (q := (RX0, TX0, 4)) hK hG 4 0 ⟨by omega, rfl⟩ rfl rfl rfl) rfl hl rfl (Nat.le_of_ble_eq_true rfl) dX0_choose_28 ⟨Nat.le_of_ble_eq_true rfl, Nat.le_of_ble_eq_true rfl⟩ (fun r_28 u_28 H locs hp hG hS => ?_)
  obtain ⟨hr, rfl⟩ := hp
  rw [zs_sc_hd s3] at hr
  subst hr
  refine zb_iconst (n := 2) hx hb dX0_choose_31 (by decide) ?_
  refine zc_Vv (As := [za_o ad 8 ((zs_ln S v)[0]?), .int (nI 2)]) (rest := []) hK hZ hb0 hG hS hx hb hml hown hts (c_X0_take l ((zs_ln S v)[0]?) 2 (fun x hx => (L3 x (zs_hd_mem hx)).1) (fun x hx => hLx x (zs_hd_mem hx)) (by decide) (by decide) b3 hBS) (cwV 2 hts gX0_choose_X0_take rfl rfl rfl (by decide +kernel) ⟨Nat.le_of_ble_eq_true rfl, Nat.le_of_ble_eq_true rfl⟩) (za_recv (q := (RX0, TX0, 4)) hK hG 4 0 ⟨by omega, rfl⟩ rfl rfl rfl) rfl hl rfl (Nat.le_of_ble_eq_true rfl) dX0_choose_32 ⟨Nat.le_of_ble_eq_true rfl, Nat.le_of_ble_eq_true rfl⟩ (fun u_32 H locs hp hG hS => ?_)
  subst hp
  have s4 := zs_sc_take (S := S) s3 hLx 2
  have b4 := zs_take_B (S := S) b3 ((zs_ln S v)[0]?) (ly := 2) (by decide)
  have g4 := g3.tr (zs_take_fr S X3 ((zs_ln S v)[0]?) 2)
  obtain ⟨X4, hX4⟩ : ∃ X4, X4 = zs_take S X3 ((zs_ln S v)[0]?) 2 := ⟨_, rfl⟩
  rw [← hX4] at hG s4 b4 g4
  have L4 : ∀ x, x ∈ zs_ln S v → x < X4.1 5 0 0 ∧ x < 10 := by rw [g4.c5]; exact hV.L
  refine lv_aload_n hx hb dX0_choose_35 rfl (lv_at hl 0 rfl) ?_
  refine lv_aload_n hx hb dX0_choose_36 rfl (lv_at hl 0 rfl) ?_
  refine zb_iconst (n := 0) hx hb dX0_choose_37 (by decide) ?_
  refine zc_Vq (κ := 8) (As := [.int (nI 0)]) (rest := [.ref (ad 4 0)]) hK hZ hb0 hG hS hx hb hml hown hts (c_X0_inLine l 0 (by decide) b4 hBS) (cwV 1 hts gX0_choose_X0_inLine rfl rfl rfl (by decide +kernel) ⟨Nat.le_of_ble_eq_true rfl, Nat.le_of_ble_eq_true rfl⟩) (za_recv (q := (RX0, TX0, 4)) hK hG 4 0 ⟨by omega, rfl⟩ rfl rfl rfl) rfl hl rfl (Nat.le_of_ble_eq_true rfl) dX0_choose_38 ⟨Nat.le_of_ble_eq_true rfl, Nat.le_of_ble_eq_true rfl⟩ (fun r_38 u_38 H locs hp hG hS => ?_)
  obtain ⟨hr, rfl⟩ := hp
  rw [zs_sc_hd s4] at hr
  subst hr
  refine zb_iconst (n := 3) hx hb dX0_choose_41 (by decide) ?_
  refine zc_Vv (As := [za_o ad 8 ((zs_ln S v)[0]?), .int (nI 3)]) (rest := []) hK hZ hb0 hG hS hx hb hml hown hts (c_X0_take l ((zs_ln S v)[0]?) 3 (fun x hx => (L4 x (zs_hd_mem hx)).1) (fun x hx => hLx x (zs_hd_mem hx)) (by decide) (by decide) b4 hBS) (cwV 2 hts gX0_choose_X0_take rfl rfl rfl (by decide +kernel) ⟨Nat.le_of_ble_eq_true rfl, Nat.le_of_ble_eq_true rfl⟩) (za_recv (q := (RX0, TX0, 4)) hK hG 4 0 ⟨by omega, rfl⟩ rfl rfl rfl) rfl hl rfl (Nat.le_of_ble_eq_true rfl) dX0_choose_42 ⟨Nat.le_of_ble_eq_true rfl, Nat.le_of_ble_eq_true rfl⟩ (fun u_42 H locs hp hG hS => ?_)
  subst hp
  have s5 := zs_sc_take (S := S) s4 hLx 3
  have b5 := zs_take_B (S := S) b4 ((zs_ln S v)[0]?) (ly := 3) (by decide)
  have g5 := g4.tr (zs_take_fr S X4 ((zs_ln S v)[0]?) 3)
  obtain ⟨X5, hX5⟩ : ∃ X5, X5 = zs_take S X4 ((zs_ln S v)[0]?) 3 := ⟨_, rfl⟩
  rw [← hX5] at hG s5 b5 g5
  have L5 : ∀ x, x ∈ zs_ln S v → x < X5.1 5 0 0 ∧ x < 10 := by rw [g5.c5]; exact hV.L
  refine lv_aload_n hx hb dX0_choose_45 rfl (lv_at hl 0 rfl) ?_
  refine zb_iconst (n := 2) hx hb dX0_choose_46 (by decide) ?_
  refine zc_Vv (As := [.int (nI 2)]) (rest := []) hK hZ hb0 hG hS hx hb hml hown hts (c_X0_takeForAll l 2 (zs_ln S v) _ s5 L5 hLl (by decide) (by decide) b5 hBS) (cwV 1 hts gX0_choose_X0_takeForAll rfl rfl rfl (by decide +kernel) ⟨Nat.le_of_ble_eq_true rfl, Nat.le_of_ble_eq_true rfl⟩) (za_recv (q := (RX0, TX0, 4)) hK hG 4 0 ⟨by omega, rfl⟩ rfl rfl rfl) rfl hl rfl (Nat.le_of_ble_eq_true rfl) dX0_choose_47 ⟨Nat.le_of_ble_eq_true rfl, Nat.le_of_ble_eq_true rfl⟩ (fun u_47 H locs hp hG hS => ?_)
  obtain ⟨X6, rfl, f6, b6, s6⟩ := hp
  have g6 := g5.tr f6
  have L6 : ∀ x, x ∈ zs_ln S v → x < X6.1 5 0 0 ∧ x < 10 := by rw [g6.c5]; exact hV.L
  refine lv_aload_n hx hb dX0_choose_50 rfl (lv_at hl 0 rfl) ?_
  refine zb_iconst (n := 3) hx hb dX0_choose_51 (by decide) ?_
  refine zc_Vv (As := [.int (nI 3)]) (rest := []) hK hZ hb0 hG hS hx hb hml hown hts (c_X0_takeForAll l 3 (zs_ln S v) _ s6 L6 hLl (by decide) (by decide) b6 hBS) (cwV 1 hts gX0_choose_X0_takeForAll rfl rfl rfl (by decide +kernel) ⟨Nat.le_of_ble_eq_true rfl, Nat.le_of_ble_eq_true rfl⟩) (za_recv (q := (RX0, TX0, 4)) hK hG 4 0 ⟨by omega, rfl⟩ rfl rfl rfl) rfl hl rfl (Nat.le_of_ble_eq_true rfl) dX0_choose_52 ⟨Nat.le_of_ble_eq_true rfl, Nat.le_of_ble_eq_true rfl⟩ (fun u_52 H locs hp hG hS => ?_)
  obtain ⟨X7, rfl, f7, b7, s7⟩ := hp
  have g7 := g6.tr f7
  exact zm_vret hx hb hr hlocks hG hS (by omega) (by omega) ⟨X7, rfl, g7, b7, s7.2.2.1⟩ dX0_choose_55
