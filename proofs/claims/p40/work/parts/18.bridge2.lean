set_option maxRecDepth 100000 in
set_option maxHeartbeats 4000000 in
theorem c_X6_settle (l : Launch) {E : za_E} {b : Nat} {ad : za_Ad} {S X T Y : za_S} {ow : Int64} {dw : UInt64}  (hJ : zs_J S X) (hro : ∀ a r, a < X.1 5 0 0 → S.2 0 a 0 = some r → r < X.1 5 1 0) (hpi : ∀ a q, a < X.1 5 0 0 → S.2 1 a 0 = some q → q < X.1 5 0 0) (hVa : zs_Va (zs_st S 10)) (hBX : zs_B X) (hBS : zs_B S) : Met l yX6_settle wsX6_settle ({ frames := 5, cells := 0, slots := 0, locals := 115 } : Room) (za_Pc E b (ad, S, X, T, Y, ow, dw) [.ref (ad 0 0)]) (za_Qv E b (fun u => ∃ X2, u = (ad, zs_st S 10, X2, T, Y, ow, dw) ∧ zs_fv X X2 ∧ zs_B X2 ∧ zs_ok (zs_st S 10) X2)) (0) (0) (za_A b) := by
  refine zm_met (ccm := cX6_settle) (maxL := 5) (ret := none) (ws' := _) (own := RX6) (lv := [(0, .ref (ad 0 0))]) (by decide) rfl rfl rfl (by simp [lg_sl, Value.category]) ?_
  intro pg en s m below meth c hx hb hml hr hown hts hlocks hK hZ hb0 hG hS ls hl
  have hf11 := hts (.fieldLink RX6 11 "VideoBridge" "everybody" "[LVideoBridge$Person;") (by decide +kernel)
  have hf135 := hts (.fieldLink RX6 135 "VideoBridge$Person" "pinned" "LVideoBridge$Person;") (by decide +kernel)
  have hinX6 : ∀ w ∈ u_ws RX6 TX6 11, w ∈ wsX6_settle := by decide +kernel
  have hinX2 : ∀ w ∈ u_ws RX2 TX2 8, w ∈ wsX6_settle := by decide +kernel
  skip
  refine lv_aload_n hx hb dX6_settle_0 rfl (lv_at hl 0 rfl) ?_
  refine zg_BR_everybody hx hb hts hinX6 hown hf11 hK hG dX6_settle_1 ?_
  refine lv_astore_n (lv' := [(1, .ref (ad 1 0)), (0, .ref (ad 0 0))]) hx hb dX6_settle_4 rfl hl (by decide) rfl (fun ls hl => ?_)
  refine lv_aload_n hx hb dX6_settle_5 rfl (lv_at hl 0 rfl) ?_
  refine zl_EV hx hb hK hG dX6_settle_6 ?_
  refine lv_istore_n (lv' := [(2, .int (nI 10)), (1, .ref (ad 1 0)), (0, .ref (ad 0 0))]) hx hb dX6_settle_7 rfl hl (by decide) rfl (fun ls hl => ?_)
  refine zb_iconst (n := 0) hx hb dX6_settle_8 (by decide) ?_
  refine lv_istore_n (lv' := [(3, .int (nI 0)), (2, .int (nI 10)), (1, .ref (ad 1 0)), (0, .ref (ad 0 0))]) hx hb dX6_settle_9 rfl hl (by decide) rfl (fun ls hl => ?_)
  have loop10 : ∀ (N : Nat) (i : Nat), (i ≤ 10) → 10 - i < N → ∀ (H : Heap) (locs : List Loc), za_G E b (ad, (zs_st S i), X, T, Y, ow, dw) H → va_S (za_A b) s.heap H locs → ∀ ls : Array Slot, lv_has ls 5 [(0, .ref (ad 0 0)), (1, .ref (ad 1 0)), (2, .int (nI 10)), (3, .int (nI i))] → W pg l en ({ frames := 5, cells := 0, slots := 0, locals := 115 } : Room) s m ([.ref (ad 0 0)] : List Value).toArray below meth c H locs (0) (0) (MQ below (za_Qv E b (fun u => ∃ X2, u = (ad, zs_st S 10, X2, T, Y, ow, dw) ∧ zs_fv X X2 ∧ zs_B X2 ∧ zs_ok (zs_st S 10) X2)) ([.ref (ad 0 0)] : List Value).toArray s (0) (0) (za_A b)) (F0 m 10 ls []) := by
    intro N
    induction N with
    | zero => intro i hi hN; exact absurd hN (Nat.not_lt_zero _)
    | succ N ih10 =>
      intro i hi hN H locs hG hS ls hl
      refine lv_iload_n hx hb dX6_settle_10 rfl (lv_at hl 3 rfl) ?_
      refine lv_iload_n hx hb dX6_settle_11 rfl (lv_at hl 2 rfl) ?_
      refine zb_icmp_ge (x := i) (y := 10) (tgt := 50) hx hb (by omega) (by omega) dX6_settle_12 (by decide) (fun c_12 => ?_) (fun c_12 => ?_)
      · obtain rfl : i = 10 := by omega
        refine lv_aload_n hx hb dX6_settle_50 rfl (lv_at hl 0 rfl) ?_
        refine zc_Vv (As := []) (rest := []) hK hZ hb0 hG hS hx hb hml hown hts (c_X6_chooseViews l hJ hVa hBX hBS) (cwV 0 hts gX6_settle_X6_chooseViews rfl rfl rfl (by decide +kernel) ⟨Nat.le_of_ble_eq_true rfl, Nat.le_of_ble_eq_true rfl⟩) (za_recv (q := (RX6, TX6, 11)) hK hG 0 0 ⟨by omega, rfl⟩ rfl rfl rfl) rfl hl rfl (Nat.le_of_ble_eq_true rfl) dX6_settle_51 ⟨Nat.le_of_ble_eq_true rfl, Nat.le_of_ble_eq_true rfl⟩ (fun u_51 H locs hp hG hS => ?_)
        obtain ⟨X2, rfl, q1, q2, q3, q4⟩ := hp
        exact zm_vret hx hb hr hlocks hG hS (by omega) (by omega) ⟨X2, rfl, q1, q2, q3, q4⟩ dX6_settle_54
      · refine lv_aload_n hx hb dX6_settle_15 rfl (lv_at hl 1 rfl) ?_
        refine lv_iload_n hx hb dX6_settle_16 rfl (lv_at hl 3 rfl) ?_
        refine zld_EV (r := X.2 1 i 0) hx hb hK hG (by omega) rfl dX6_settle_17 ?_
        refine zb_ostore (ad := ad) (κ := 8) (r := X.2 1 i 0) (lv' := [(4, za_o ad 8 (X.2 1 i 0)), (0, .ref (ad 0 0)), (1, .ref (ad 1 0)), (2, .int (nI 10)), (3, .int (nI i))]) hx hb dX6_settle_18 hl (by decide) rfl (fun ls hl => ?_)
        refine zb_oload hx hb dX6_settle_20 (lv_at hl 0 rfl) ?_
        refine zb_ifnull (κ := 8) (r := X.2 1 i 0) (tgt := 44) hx hb dX6_settle_22 (by decide) (fun c_22 => ?_) (fun x_1 c_22 => ?_)
        · rw [c_22] at hl
          refine zb_iinc (n := 1) (k := 4) (lv' := [(3, .int (nI (i + 1))), (4, .null), (0, .ref (ad 0 0)), (1, .ref (ad 1 0)), (2, .int (nI 10))]) hx hb dX6_settle_44 hl rfl (by decide) (by decide) rfl (fun ls hl => ?_)
          refine zb_goto (tgt := 10) hx hb dX6_settle_47 (by decide) ?_
          exact ih10 (i + 1) (by omega) (by omega) _ _ (by rw [zs_st_no S i (fun h => hJ.en c_22 h.1)]; exact hG) hS ls (lv_sub hl [2, 3, 4, 0] rfl)
        · rw [c_22] at hl
          have hyi : x_1 = i := (hJ.e c_22).1
          have hin : i < S.1 0 0 0 := (hJ.e c_22).2
          rw [hyi] at hl
          have hv_2 : ∀ z, X.2 1 i 0 = some z → z < X.1 5 0 0 := (hJ.ev i)
          refine lv_aload hx hb dX6_settle_25 (lv_at hl 0 rfl) ?_
          refine lv_aload hx hb dX6_settle_27 (lv_at hl 0 rfl) ?_
          refine zg_PE_pinned hx hb hts hinX2 hown hf135 hK hG i (hJ.pe hin) (r := S.2 1 i 0) (if_neg (fun h => absurd h.2.2.1 (Nat.lt_irrefl _))) dX6_settle_29 ?_
          refine zc_Si (As := [.ref (ad 8 i), za_o ad 8 (S.2 1 i 0)]) (rest := []) hK hZ hb0 hG hS hx hb hml hown hts (c_X6_areTogether l (some i) (S.2 1 i 0) (by rintro _ ⟨⟩; exact hJ.pe hin) (fun x hx => hpi i x (hJ.pe hin) hx) (fun a r ha h => hro a r ha h)) (cwS 2 hts gX6_settle_X6_areTogether rfl rfl rfl (by decide +kernel) ⟨Nat.le_of_ble_eq_true rfl, Nat.le_of_ble_eq_true rfl⟩) rfl hl rfl (Nat.le_of_ble_eq_true rfl) dX6_settle_32 ⟨Nat.le_of_ble_eq_true rfl, Nat.le_of_ble_eq_true rfl⟩ (fun r_32 u_32 H locs hp hG hS => ?_)
          obtain ⟨rfl, rfl⟩ := hp
          rw [zs_tg_st]
          have hbl := zs_bl (zs_tg S (some i) (S.2 1 i 0))
          refine zb_if_ne (x := if zs_tg S (some i) (S.2 1 i 0) = true then 1 else 0) (tgt := 44) hx hb (by omega) dX6_settle_35 (by decide) (fun c_35 => ?_) (fun c_35 => ?_)
          · refine zb_iinc (n := 1) (k := 4) (lv' := [(3, .int (nI (i + 1))), (4, .ref (ad 8 i)), (0, .ref (ad 0 0)), (1, .ref (ad 1 0)), (2, .int (nI 10))]) hx hb dX6_settle_44 hl rfl (by decide) (by decide) rfl (fun ls hl => ?_)
            refine zb_goto (tgt := 10) hx hb dX6_settle_47 (by decide) ?_
            exact ih10 (i + 1) (by omega) (by omega) _ _ (by rw [zs_st_no S i (fun h => absurd h.2 (by rw [zs_b1 c_35]; decide))]; exact hG) hS ls (lv_sub hl [2, 3, 4, 0] rfl)
          · refine lv_aload hx hb dX6_settle_38 (lv_at hl 0 rfl) ?_
            refine lv_null hx hb dX6_settle_40 ?_
            refine W.eq (g2 := F0 m 41 ls (za_o ad 8 none :: [.ref (ad 8 i)])) rfl ?_
            refine zp_PE_pinned hx hb hts hinX2 hown hf135 hS hK hG i (hJ.pe hin) none dX6_settle_41 (fun H locs hG hS => ?_)
            refine zb_iinc (n := 1) (k := 4) (lv' := [(3, .int (nI (i + 1))), (4, .ref (ad 8 i)), (0, .ref (ad 0 0)), (1, .ref (ad 1 0)), (2, .int (nI 10))]) hx hb dX6_settle_44 hl rfl (by decide) (by decide) rfl (fun ls hl => ?_)
            refine zb_goto (tgt := 10) hx hb dX6_settle_47 (by decide) ?_
            exact ih10 (i + 1) (by omega) (by omega) _ _ (by rw [← zs_st_yes S i hin (zs_b0 c_35)]; exact hG) hS ls (lv_sub hl [2, 3, 4, 0] rfl)
  exact loop10 (_ + 1) 0 (Nat.zero_le _) (Nat.lt_succ_self _) _ _ (by rw [zs_st_0]; exact hG) hS ls (lv_sub hl [3, 2, 1, 0] rfl)

set_option maxRecDepth 100000 in
set_option maxHeartbeats 4000000 in
theorem c_X5_has (l : Launch) {E : za_E} {b : Nat} {ad : za_Ad} {S X T Y : za_S} {ow : Int64} {dw : UInt64} (k : Nat) (x : Int32) (hk : k < X.1 5 2 0 ∨ k = 8) (hBX : zs_B X) (hBS : zs_B S) : Met l yX5_has wsX5_has ({ frames := 0, cells := 0, slots := 0, locals := 0 } : Room) (za_Pc E b (ad, S, X, T, Y, ow, dw) [.ref (ad 12 k), .int x]) (za_Qi E b (fun r u => r = nI (if zs_ix x < S.1 7 k 0 then 1 else 0) ∧ u = (ad, S, X, T, Y, ow, dw))) (0) (0) (za_A b) := by
  refine zm_met (ccm := cX5_has) (maxL := 2) (ret := (some .boolean)) (ws' := _) (own := RX5) (lv := [(0, .ref (ad 12 k)), (1, .int x)]) (by decide) rfl rfl rfl (by simp [lg_sl, Value.category]) ?_
  intro pg en s m below meth c hx hb hml hr hown hts hlocks hK hZ hb0 hG hS ls hl
  have hf19 := hts (.fieldLink RX5 19 "VideoBridge$Row" "size" "I") (by decide +kernel)
  have hinX5 : ∀ w ∈ u_ws RX5 TX5 3, w ∈ wsX5_has := by decide +kernel
  skip
  have hb7 := hBS 7 k 0
  rcases zs_ixc x with ⟨hx0, hx1⟩ | ⟨n, hxn, rfl, hx1⟩
  · have hl : lv_has ls 2 [(0, .ref (ad 12 k)), (1, .int x)] := hl
    refine lv_iload_n hx hb dX5_has_0 rfl (lv_at hl 1 rfl) ?_
    refine lv_if_lt (tgt := 16) hx hb dX5_has_1 (by decide) (fun c_1 => ?_) (fun c_1 => ?_)
    · refine zb_iconst (n := 0) hx hb dX5_has_16 (by decide) ?_
      exact zm_zret hx hb hr rfl hlocks hG hS (by omega) (by omega) ⟨by rw [hx1]; first | rw [if_pos (by omega)] | rw [if_neg (by omega)], rfl⟩ dX5_has_17
    · exact absurd hx0 c_1
  · have hl : lv_has ls 2 [(0, .ref (ad 12 k)), (1, .int (nI n))] := hl
    refine lv_iload_n hx hb dX5_has_0 rfl (lv_at hl 1 rfl) ?_
    refine zb_if_lt (x := n) (tgt := 16) hx hb (by omega) dX5_has_1 (by decide) ?_
    refine lv_iload_n hx hb dX5_has_4 rfl (lv_at hl 1 rfl) ?_
    refine lv_aload_n hx hb dX5_has_5 rfl (lv_at hl 0 rfl) ?_
    refine zg_RW_size hx hb hts hinX5 hown hf19 hK hG k hk (n := S.1 7 k 0) rfl dX5_has_6 ?_
    refine zb_icmp_ge (x := n) (y := S.1 7 k 0) (tgt := 16) hx hb (by omega) (by have := hBS 7 k 0; omega) dX5_has_9 (by decide) (fun c_9 => ?_) (fun c_9 => ?_)
    · refine zb_iconst (n := 0) hx hb dX5_has_16 (by decide) ?_
      exact zm_zret hx hb hr rfl hlocks hG hS (by omega) (by omega) ⟨by rw [hx1]; first | rw [if_pos (by omega)] | rw [if_neg (by omega)], rfl⟩ dX5_has_17
    · refine zb_iconst (n := 1) hx hb dX5_has_12 (by decide) ?_
      refine zb_goto (tgt := 17) hx hb dX5_has_13 (by decide) ?_
      exact zm_zret hx hb hr rfl hlocks hG hS (by omega) (by omega) ⟨by rw [hx1]; first | rw [if_pos (by omega)] | rw [if_neg (by omega)], rfl⟩ dX5_has_17

set_option maxRecDepth 100000 in
set_option maxHeartbeats 4000000 in
theorem c_X5_at (l : Launch) {E : za_E} {b : Nat} {ad : za_Ad} {S X T Y : za_S} {ow : Int64} {dw : UInt64} (k n : Nat) (hk : k < X.1 5 2 0 ∨ k = 8) (hn : n < S.1 7 k 0) (hlen : S.1 7 k 0 ≤ X.1 4 k 0) (hBX : zs_B X) (hBS : zs_B S) : Met l yX5_at wsX5_at ({ frames := 0, cells := 0, slots := 0, locals := 0 } : Room) (za_Pc E b (ad, S, X, T, Y, ow, dw) [.ref (ad 12 k), .int (nI n)]) (za_Qi E b (fun r u => r = za_enc (S.2 5 k n) ∧ u = (ad, S, X, T, Y, ow, dw))) (0) (0) (za_A b) := by
  refine zm_met (ccm := cX5_at) (maxL := 2) (ret := (some .int)) (ws' := _) (own := RX5) (lv := [(0, .ref (ad 12 k)), (1, .int (nI n))]) (by decide) rfl rfl rfl (by simp [lg_sl, Value.category]) ?_
  intro pg en s m below meth c hx hb hml hr hown hts hlocks hK hZ hb0 hG hS ls hl
  have hf19 := hts (.fieldLink RX5 19 "VideoBridge$Row" "size" "I") (by decide +kernel)
  have hf9 := hts (.fieldLink RX5 9 "VideoBridge$Row" "numbers" "[I") (by decide +kernel)
  have hinX5 : ∀ w ∈ u_ws RX5 TX5 3, w ∈ wsX5_at := by decide +kernel
  skip
  have hb7 := hBS 7 k 0
  refine lv_iload_n hx hb dX5_at_0 rfl (lv_at hl 1 rfl) ?_
  refine zb_if_lt (x := n) (tgt := 21) hx hb (by omega) dX5_at_1 (by decide) ?_
  refine lv_iload_n hx hb dX5_at_4 rfl (lv_at hl 1 rfl) ?_
  refine lv_aload_n hx hb dX5_at_5 rfl (lv_at hl 0 rfl) ?_
  refine zg_RW_size hx hb hts hinX5 hown hf19 hK hG k hk (n := S.1 7 k 0) rfl dX5_at_6 ?_
  refine zb_icmp_ge (x := n) (y := S.1 7 k 0) (tgt := 21) hx hb (by omega) (by have := hBS 7 k 0; omega) dX5_at_9 (by decide) (fun c_9 => ?_) (fun c_9 => ?_)
  · omega
  · refine lv_iload_n hx hb dX5_at_12 rfl (lv_at hl 1 rfl) ?_
    refine lv_aload_n hx hb dX5_at_13 rfl (lv_at hl 0 rfl) ?_
    refine zg_RW_numbers hx hb hts hinX5 hown hf9 hK hG k hk dX5_at_14 ?_
    refine zl_NU hx hb hK hG k hk dX5_at_17 ?_
    refine zb_icmp_lt (x := n) (y := X.1 4 k 0) (tgt := 25) hx hb (by omega) (by have := hBX 4 k 0; omega) dX5_at_18 (by decide) (fun c_18 => ?_) (fun c_18 => ?_)
    · refine lv_aload_n hx hb dX5_at_25 rfl (lv_at hl 0 rfl) ?_
      refine zg_RW_numbers hx hb hts hinX5 hown hf9 hK hG k hk dX5_at_26 ?_
      refine lv_iload_n hx hb dX5_at_29 rfl (lv_at hl 1 rfl) ?_
      refine zld_NU (r := S.2 5 k n) hx hb hK hG k hk (by have := hBX 4 k 0; omega) (by omega) rfl dX5_at_30 ?_
      exact zm_iret hx hb hr hlocks hG hS (by omega) (by omega) ⟨rfl, rfl⟩ dX5_at_31
    · omega
