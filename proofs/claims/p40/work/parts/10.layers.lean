set_option maxRecDepth 100000 in
set_option maxHeartbeats 4000000 in
theorem c_X6_need (l : Launch) {E : za_E} {b : Nat} {ad : za_Ad} {S X T Y : za_S} {ow : Int64} {dw : UInt64} (n : Nat) (hn : n < 2 ^ 31) : Met l yX6_need wsX6_need ({ frames := 0, cells := 0, slots := 0, locals := 0 } : Room) (za_Pc E b (ad, S, X, T, Y, ow, dw) [.int (nI n)]) (za_Qi E b (fun r u => r = nI (zs_need n) ∧ u = (ad, S, X, T, Y, ow, dw))) (0) (0) (za_A b) := by
  refine zm_met (ccm := cX6_need) (maxL := 1) (ret := (some .int)) (ws' := _) (own := RX6) (lv := [(0, .int (nI n))]) (by decide) rfl rfl rfl (by simp [lg_sl, Value.category]) ?_
  intro pg en s m below meth c hx hb hml hr hown hts hlocks hK hZ hb0 hG hS ls hl
  have hf261 := hts (.fieldLink RX6 261 "VideoBridge" "NEEDS" "[I") (by decide +kernel)
  skip
  refine lv_iload_n hx hb dX6_need_0 rfl (lv_at hl 0 rfl) ?_
  refine zb_if_lt (x := n) (tgt := 12) hx hb (by omega) dX6_need_1 (by decide) ?_
  refine lv_iload_n hx hb dX6_need_4 rfl (lv_at hl 0 rfl) ?_
  obtain ⟨t9, hZt, hTt⟩ := hZ.1
  refine zn_get hx hb hown hf261 hZt hS dX6_need_5 ?_
  refine zn_len hx hb hTt hS dX6_need_8 ?_
  refine zb_icmp_lt (x := n) (y := 4) (tgt := 16) hx hb (by omega) (by omega) dX6_need_9 (by decide) (fun c_9 => ?_) (fun c_9 => ?_)
  · obtain ⟨t9, hZt, hTt⟩ := hZ.1
    refine zn_get hx hb hown hf261 hZt hS dX6_need_16 ?_
    refine lv_iload_n hx hb dX6_need_19 rfl (lv_at hl 0 rfl) ?_
    refine zn_ld hx hb hTt hS (by omega) dX6_need_20 ?_
    exact zm_iret hx hb hr hlocks hG hS (by omega) (by omega) ⟨rfl, rfl⟩ dX6_need_21
  · refine zb_iconst (n := 0) hx hb dX6_need_12 (by decide) ?_
    refine zb_goto (tgt := 21) hx hb dX6_need_13 (by decide) ?_
    exact zm_iret hx hb hr hlocks hG hS (by omega) (by omega) ⟨by unfold zs_need; repeat (first | rw [if_neg (by omega)] | rfl), rfl⟩ dX6_need_21

set_option maxRecDepth 100000 in
set_option maxHeartbeats 4000000 in
theorem c_X1_of (l : Launch) {E : za_E} {b : Nat} {ad : za_Ad} {S X T Y : za_S} {ow : Int64} {dw : UInt64} (k n : Nat) (hk : k < X.1 5 0 0 ∨ k = 10) (hn : n < 10) : Met l yX1_of wsX1_of ({ frames := 0, cells := 0, slots := 0, locals := 0 } : Room) (za_Pc E b (ad, S, X, T, Y, ow, dw) [.ref (ad 6 k), .int (nI n)]) (za_Qi E b (fun r u => r = nI (X.1 0 k n) ∧ u = (ad, S, X, T, Y, ow, dw))) (0) (0) (za_A b) := by
  refine zm_met (ccm := cX1_of) (maxL := 2) (ret := (some .int)) (ws' := _) (own := RX1) (lv := [(0, .ref (ad 6 k)), (1, .int (nI n))]) (by decide) rfl rfl rfl (by simp [lg_sl, Value.category]) ?_
  intro pg en s m below meth c hx hb hml hr hown hts hlocks hK hZ hb0 hG hS ls hl
  have hf9 := hts (.fieldLink RX1 9 "VideoBridge$Layers" "row" "[I") (by decide +kernel)
  have hinX1 : ∀ w ∈ u_ws RX1 TX1 1, w ∈ wsX1_of := by decide +kernel
  skip
  refine lv_iload_n hx hb dX1_of_0 rfl (lv_at hl 1 rfl) ?_
  refine zb_if_lt (x := n) (tgt := 13) hx hb (by omega) dX1_of_1 (by decide) ?_
  refine lv_iload_n hx hb dX1_of_4 rfl (lv_at hl 1 rfl) ?_
  refine lv_aload_n hx hb dX1_of_5 rfl (lv_at hl 0 rfl) ?_
  refine zg_LY_row hx hb hts hinX1 hown hf9 hK hG k hk dX1_of_6 ?_
  refine zl_LR hx hb hK hG k hk dX1_of_9 ?_
  refine zb_icmp_lt (x := n) (y := 10) (tgt := 17) hx hb (by omega) (by omega) dX1_of_10 (by decide) (fun c_10 => ?_) (fun c_10 => ?_)
  · refine lv_aload_n hx hb dX1_of_17 rfl (lv_at hl 0 rfl) ?_
    refine zg_LY_row hx hb hts hinX1 hown hf9 hK hG k hk dX1_of_18 ?_
    refine lv_iload_n hx hb dX1_of_21 rfl (lv_at hl 1 rfl) ?_
    refine zld_LR (n := X.1 0 k n) hx hb hK hG k hk (by omega) rfl dX1_of_22 ?_
    exact zm_iret hx hb hr hlocks hG hS (by omega) (by omega) ⟨rfl, rfl⟩ dX1_of_23
  · omega

set_option maxRecDepth 100000 in
set_option maxHeartbeats 4000000 in
theorem c_X1_set (l : Launch) {E : za_E} {b : Nat} {ad : za_Ad} {S X T Y : za_S} {ow : Int64} {dw : UInt64} (k n v : Nat) (hk : k < X.1 5 0 0 ∨ k = 10) (hn : n < 10) : Met l yX1_set wsX1_set ({ frames := 0, cells := 0, slots := 0, locals := 0 } : Room) (za_Pc E b (ad, S, X, T, Y, ow, dw) [.ref (ad 6 k), .int (nI n), .int (nI v)]) (za_Qv E b (fun u => u = (ad, S, za_N X 0 k n v, T, Y, ow, dw))) (0) (0) (za_A b) := by
  refine zm_met (ccm := cX1_set) (maxL := 3) (ret := none) (ws' := _) (own := RX1) (lv := [(0, .ref (ad 6 k)), (1, .int (nI n)), (2, .int (nI v))]) (by decide) rfl rfl rfl (by simp [lg_sl, Value.category]) ?_
  intro pg en s m below meth c hx hb hml hr hown hts hlocks hK hZ hb0 hG hS ls hl
  have hf9 := hts (.fieldLink RX1 9 "VideoBridge$Layers" "row" "[I") (by decide +kernel)
  have hinX1 : ∀ w ∈ u_ws RX1 TX1 1, w ∈ wsX1_set := by decide +kernel
  skip
  refine lv_iload_n hx hb dX1_set_0 rfl (lv_at hl 1 rfl) ?_
  refine zb_if_lt (x := n) (tgt := 20) hx hb (by omega) dX1_set_1 (by decide) ?_
  refine lv_iload_n hx hb dX1_set_4 rfl (lv_at hl 1 rfl) ?_
  refine lv_aload_n hx hb dX1_set_5 rfl (lv_at hl 0 rfl) ?_
  refine zg_LY_row hx hb hts hinX1 hown hf9 hK hG k hk dX1_set_6 ?_
  refine zl_LR hx hb hK hG k hk dX1_set_9 ?_
  refine zb_icmp_ge (x := n) (y := 10) (tgt := 20) hx hb (by omega) (by omega) dX1_set_10 (by decide) (fun c_10 => ?_) (fun c_10 => ?_)
  · omega
  · refine lv_aload_n hx hb dX1_set_13 rfl (lv_at hl 0 rfl) ?_
    refine zg_LY_row hx hb hts hinX1 hown hf9 hK hG k hk dX1_set_14 ?_
    refine lv_iload_n hx hb dX1_set_17 rfl (lv_at hl 1 rfl) ?_
    refine lv_iload_n hx hb dX1_set_18 rfl (lv_at hl 2 rfl) ?_
    refine zst_LR hx hb hK hG k hk hS (by omega) dX1_set_19 (fun H locs hG hS => ?_)
    exact zm_vret hx hb hr hlocks hG hS (by omega) (by omega) rfl dX1_set_20

set_option maxRecDepth 100000 in
set_option maxHeartbeats 4000000 in
theorem c_J7_fill_53178 (l : Launch) {E : za_E} {b : Nat} {ad : za_Ad} {S X T Y : za_S} {ow : Int64} {dw : UInt64} (k : Nat) (hk : k < X.1 5 0 0 ∨ k = 10) : Met l yJ7_fill_53178 wsJ7_fill_53178 ({ frames := 0, cells := 0, slots := 0, locals := 0 } : Room) (za_Pc E b (ad, S, X, T, Y, ow, dw) [.ref (ad 7 k), .int (nI 0)]) (za_Qv E b (fun u => u = (ad, S, zs_row X 0 k 10 (fun _ => 0), T, Y, ow, dw))) (0) (0) (za_A b) := by
  refine zm_met (ccm := cJ7_fill_53178) (maxL := 4) (ret := none) (ws' := _) (own := RJ7) (lv := [(0, .ref (ad 7 k)), (1, .int (nI 0))]) (by decide) rfl rfl rfl (by simp [lg_sl, Value.category]) ?_
  intro pg en s m below meth c hx hb hml hr hown hts hlocks hK hZ hb0 hG hS ls hl
  skip
  refine zb_iconst (n := 0) hx hb dJ7_fill_53178_0 (by decide) ?_
  refine lv_istore_n (lv' := [(2, .int (nI 0)), (0, .ref (ad 7 k)), (1, .int (nI 0))]) hx hb dJ7_fill_53178_1 rfl hl (by decide) rfl (fun ls hl => ?_)
  refine lv_aload_n hx hb dJ7_fill_53178_2 rfl (lv_at hl 1 rfl) ?_
  refine zl_LR hx hb hK hG k hk dJ7_fill_53178_3 ?_
  refine lv_istore_n (lv' := [(3, .int (nI 10)), (2, .int (nI 0)), (0, .ref (ad 7 k)), (1, .int (nI 0))]) hx hb dJ7_fill_53178_4 rfl hl (by decide) rfl (fun ls hl => ?_)
  have loop5 : ∀ (N : Nat) (i : Nat), (i ≤ 10) → 10 - i < N → ∀ (H : Heap) (locs : List Loc), za_G E b (ad, S, (zs_row X 0 k i (fun _ => 0)), T, Y, ow, dw) H → va_S (za_A b) s.heap H locs → ∀ ls : Array Slot, lv_has ls 4 [(0, .ref (ad 7 k)), (1, .int (nI 0)), (2, .int (nI i)), (3, .int (nI 10))] → W pg l en ({ frames := 0, cells := 0, slots := 0, locals := 0 } : Room) s m ([.ref (ad 7 k), .int (nI 0)] : List Value).toArray below meth c H locs (0) (0) (MQ below (za_Qv E b (fun u => u = (ad, S, zs_row X 0 k 10 (fun _ => 0), T, Y, ow, dw))) ([.ref (ad 7 k), .int (nI 0)] : List Value).toArray s (0) (0) (za_A b)) (F0 m 5 ls []) := by
    intro N
    induction N with
    | zero => intro i hi hN; exact absurd hN (Nat.not_lt_zero _)
    | succ N ih5 =>
      intro i hi hN H locs hG hS ls hl
      refine lv_iload_n hx hb dJ7_fill_53178_5 rfl (lv_at hl 2 rfl) ?_
      refine lv_iload_n hx hb dJ7_fill_53178_6 rfl (lv_at hl 3 rfl) ?_
      refine zb_icmp_ge (x := i) (y := 10) (tgt := 20) hx hb (by omega) (by omega) dJ7_fill_53178_7 (by decide) (fun c_7 => ?_) (fun c_7 => ?_)
      · obtain rfl : i = 10 := by omega
        exact zm_vret hx hb hr hlocks hG hS (by omega) (by omega) rfl dJ7_fill_53178_20
      · refine lv_aload_n hx hb dJ7_fill_53178_10 rfl (lv_at hl 0 rfl) ?_
        refine lv_iload_n hx hb dJ7_fill_53178_11 rfl (lv_at hl 2 rfl) ?_
        refine lv_iload_n hx hb dJ7_fill_53178_12 rfl (lv_at hl 1 rfl) ?_
        refine zst_LR hx hb hK hG k hk hS (by omega) dJ7_fill_53178_13 (fun H locs hG hS => ?_)
        refine zb_iinc (n := 1) (k := 2) (lv' := [(2, .int (nI (i + 1))), (0, .ref (ad 7 k)), (1, .int (nI 0)), (3, .int (nI 10))]) hx hb dJ7_fill_53178_14 hl rfl (by decide) (by decide) rfl (fun ls hl => ?_)
        refine zb_goto (tgt := 5) hx hb dJ7_fill_53178_17 (by decide) ?_
        exact ih5 (i + 1) (by omega) (by omega) _ _ (by rw [← zs_row_succ]; exact hG) hS ls (lv_sub hl [1, 2, 0, 3] rfl)
  exact loop5 (_ + 1) 0 (Nat.zero_le _) (Nat.lt_succ_self _) _ _ (by rw [zs_row_0]; exact hG) hS ls (lv_sub hl [2, 3, 1, 0] rfl)

set_option maxRecDepth 100000 in
set_option maxHeartbeats 4000000 in
theorem c_X1_clear (l : Launch) {E : za_E} {b : Nat} {ad : za_Ad} {S X T Y : za_S} {ow : Int64} {dw : UInt64} (k : Nat) (hk : k < X.1 5 0 0 ∨ k = 10) : Met l yX1_clear wsX1_clear ({ frames := 1, cells := 0, slots := 0, locals := 23 } : Room) (za_Pc E b (ad, S, X, T, Y, ow, dw) [.ref (ad 6 k)]) (za_Qv E b (fun u => u = (ad, S, zs_row X 0 k 10 (fun _ => 0), T, Y, ow, dw))) (0) (0) (za_A b) := by
  refine zm_met (ccm := cX1_clear) (maxL := 1) (ret := none) (ws' := _) (own := RX1) (lv := [(0, .ref (ad 6 k))]) (by decide) rfl rfl rfl (by simp [lg_sl, Value.category]) ?_
  intro pg en s m below meth c hx hb hml hr hown hts hlocks hK hZ hb0 hG hS ls hl
  have hf9 := hts (.fieldLink RX1 9 "VideoBridge$Layers" "row" "[I") (by decide +kernel)
  have hinX1 : ∀ w ∈ u_ws RX1 TX1 1, w ∈ wsX1_clear := by decide +kernel
  skip
  refine lv_aload_n hx hb dX1_clear_0 rfl (lv_at hl 0 rfl) ?_
  refine zg_LY_row hx hb hts hinX1 hown hf9 hK hG k hk dX1_clear_1 ?_
  refine zb_iconst (n := 0) hx hb dX1_clear_4 (by decide) ?_
  refine zc_Sv (As := [.ref (ad 7 k), .int (nI 0)]) (rest := []) hK hZ hb0 hG hS hx hb hml hown hts (c_J7_fill_53178 l k hk) (va_cwS 2 hts gX1_clear_J7_fill_53178 rfl rfl rfl (by decide +kernel) ⟨Nat.le_of_ble_eq_true rfl, Nat.le_of_ble_eq_true rfl⟩) rfl hl rfl (Nat.le_of_ble_eq_true rfl) dX1_clear_5 ⟨Nat.le_of_ble_eq_true rfl, Nat.le_of_ble_eq_true rfl⟩ (fun u_5 H locs hp hG hS => ?_)
  subst hp
  exact zm_vret hx hb hr hlocks hG hS (by omega) (by omega) rfl dX1_clear_8

set_option maxRecDepth 100000 in
set_option maxHeartbeats 4000000 in
theorem c_X1_takeOver (l : Launch) {E : za_E} {b : Nat} {ad : za_Ad} {S X T Y : za_S} {ow : Int64} {dw : UInt64} (k q : Nat) (hk : k < X.1 5 0 0 ∨ k = 10) (hq : q < X.1 5 0 0 ∨ q = 10) (hkq : k ≠ q) : Met l yX1_takeOver wsX1_takeOver ({ frames := 1, cells := 0, slots := 0, locals := 21 } : Room) (za_Pc E b (ad, S, X, T, Y, ow, dw) [.ref (ad 6 k), .ref (ad 6 q)]) (za_Qv E b (fun u => u = (ad, S, zs_row X 0 k 10 (X.1 0 q), T, Y, ow, dw))) (0) (0) (za_A b) := by
  refine zm_met (ccm := cX1_takeOver) (maxL := 3) (ret := none) (ws' := _) (own := RX1) (lv := [(0, .ref (ad 6 k)), (1, .ref (ad 6 q))]) (by decide) rfl rfl rfl (by simp [lg_sl, Value.category]) ?_
  intro pg en s m below meth c hx hb hml hr hown hts hlocks hK hZ hb0 hG hS ls hl
  have hf9 := hts (.fieldLink RX1 9 "VideoBridge$Layers" "row" "[I") (by decide +kernel)
  have hinX1 : ∀ w ∈ u_ws RX1 TX1 1, w ∈ wsX1_takeOver := by decide +kernel
  skip
  refine zb_iconst (n := 0) hx hb dX1_takeOver_0 (by decide) ?_
  refine lv_istore_n (lv' := [(2, .int (nI 0)), (0, .ref (ad 6 k)), (1, .ref (ad 6 q))]) hx hb dX1_takeOver_1 rfl hl (by decide) rfl (fun ls hl => ?_)
  have loop2 : ∀ (N : Nat) (i : Nat), (i ≤ 10) → 10 - i < N → ∀ (H : Heap) (locs : List Loc), za_G E b (ad, S, (zs_row X 0 k i (X.1 0 q)), T, Y, ow, dw) H → va_S (za_A b) s.heap H locs → ∀ ls : Array Slot, lv_has ls 3 [(0, .ref (ad 6 k)), (1, .ref (ad 6 q)), (2, .int (nI i))] → W pg l en ({ frames := 1, cells := 0, slots := 0, locals := 21 } : Room) s m ([.ref (ad 6 k), .ref (ad 6 q)] : List Value).toArray below meth c H locs (0) (0) (MQ below (za_Qv E b (fun u => u = (ad, S, zs_row X 0 k 10 (X.1 0 q), T, Y, ow, dw))) ([.ref (ad 6 k), .ref (ad 6 q)] : List Value).toArray s (0) (0) (za_A b)) (F0 m 2 ls []) := by
    intro N
    induction N with
    | zero => intro i hi hN; exact absurd hN (Nat.not_lt_zero _)
    | succ N ih2 =>
      intro i hi hN H locs hG hS ls hl
      refine lv_iload_n hx hb dX1_takeOver_2 rfl (lv_at hl 2 rfl) ?_
      refine lv_aload_n hx hb dX1_takeOver_3 rfl (lv_at hl 0 rfl) ?_
      refine zg_LY_row hx hb hts hinX1 hown hf9 hK hG k hk dX1_takeOver_4 ?_
      refine zl_LR hx hb hK hG k hk dX1_takeOver_7 ?_
      refine zb_icmp_ge (x := i) (y := 10) (tgt := 28) hx hb (by omega) (by omega) dX1_takeOver_8 (by decide) (fun c_8 => ?_) (fun c_8 => ?_)
      · obtain rfl : i = 10 := by omega
        exact zm_vret hx hb hr hlocks hG hS (by omega) (by omega) rfl dX1_takeOver_28
      · refine lv_aload_n hx hb dX1_takeOver_11 rfl (lv_at hl 0 rfl) ?_
        refine zg_LY_row hx hb hts hinX1 hown hf9 hK hG k hk dX1_takeOver_12 ?_
        refine lv_iload_n hx hb dX1_takeOver_15 rfl (lv_at hl 2 rfl) ?_
        refine lv_aload_n hx hb dX1_takeOver_16 rfl (lv_at hl 1 rfl) ?_
        refine lv_iload_n hx hb dX1_takeOver_17 rfl (lv_at hl 2 rfl) ?_
        refine zc_Vi (As := [.int (nI i)]) (rest := [.int (nI i), .ref (ad 7 k)]) hK hZ hb0 hG hS hx hb hml hown hts (c_X1_of l q i hq (by omega)) (cwV 1 hts gX1_takeOver_X1_of rfl rfl rfl (by decide +kernel) ⟨Nat.le_of_ble_eq_true rfl, Nat.le_of_ble_eq_true rfl⟩) (za_recv (q := (RX1, TX1, 1)) hK hG 6 q (show q < (zs_row X 0 k i (X.1 0 q)).1 5 0 0 ∨ q = 10 from hq) rfl rfl rfl) rfl hl rfl (Nat.le_of_ble_eq_true rfl) dX1_takeOver_18 ⟨Nat.le_of_ble_eq_true rfl, Nat.le_of_ble_eq_true rfl⟩ (fun r_18 u_18 H locs hp hG hS => ?_)
        obtain ⟨rfl, rfl⟩ := hp
        rw [show (zs_row X 0 k i (X.1 0 q)).1 0 q i = X.1 0 q i from if_neg (fun h => hkq h.2.1.symm)]
        refine zst_LR hx hb hK hG k hk hS (by omega) dX1_takeOver_21 (fun H locs hG hS => ?_)
        refine zb_iinc (n := 1) (k := 2) (lv' := [(2, .int (nI (i + 1))), (0, .ref (ad 6 k)), (1, .ref (ad 6 q))]) hx hb dX1_takeOver_22 hl rfl (by decide) (by decide) rfl (fun ls hl => ?_)
        refine zb_goto (tgt := 2) hx hb dX1_takeOver_25 (by decide) ?_
        exact ih2 (i + 1) (by omega) (by omega) _ _ (by rw [← zs_row_succ]; exact hG) hS ls (lv_sub hl [1, 2, 0] rfl)
  exact loop2 (_ + 1) 0 (Nat.zero_le _) (Nat.lt_succ_self _) _ _ (by rw [zs_row_0]; exact hG) hS ls (lv_sub hl [1, 2, 0] rfl)

set_option maxRecDepth 100000 in
set_option maxHeartbeats 4000000 in
theorem c_X1_isSameAs (l : Launch) {E : za_E} {b : Nat} {ad : za_Ad} {S X T Y : za_S} {ow : Int64} {dw : UInt64} (k q : Nat) (hk : k < X.1 5 0 0 ∨ k = 10) (hq : q < X.1 5 0 0 ∨ q = 10) (hB : ∀ i j, X.1 0 i j < 2 ^ 31) : Met l yX1_isSameAs wsX1_isSameAs ({ frames := 1, cells := 0, slots := 0, locals := 21 } : Room) (za_Pc E b (ad, S, X, T, Y, ow, dw) [.ref (ad 6 k), .ref (ad 6 q)]) (za_Qi E b (fun r u => ((r = nI 1 ∧ ∀ j, j < 10 → X.1 0 k j = X.1 0 q j) ∨ (r = nI 0 ∧ ¬ ∀ j, j < 10 → X.1 0 k j = X.1 0 q j)) ∧ u = (ad, S, X, T, Y, ow, dw))) (0) (0) (za_A b) := by
  refine zm_met (ccm := cX1_isSameAs) (maxL := 3) (ret := (some .boolean)) (ws' := _) (own := RX1) (lv := [(0, .ref (ad 6 k)), (1, .ref (ad 6 q))]) (by decide) rfl rfl rfl (by simp [lg_sl, Value.category]) ?_
  intro pg en s m below meth c hx hb hml hr hown hts hlocks hK hZ hb0 hG hS ls hl
  have hf9 := hts (.fieldLink RX1 9 "VideoBridge$Layers" "row" "[I") (by decide +kernel)
  have hinX1 : ∀ w ∈ u_ws RX1 TX1 1, w ∈ wsX1_isSameAs := by decide +kernel
  skip
  refine zb_iconst (n := 0) hx hb dX1_isSameAs_0 (by decide) ?_
  refine lv_istore_n (lv' := [(2, .int (nI 0)), (0, .ref (ad 6 k)), (1, .ref (ad 6 q))]) hx hb dX1_isSameAs_1 rfl hl (by decide) rfl (fun ls hl => ?_)
  have loop2 : ∀ (N : Nat) (i : Nat), (i ≤ 10) → (∀ j, j < i → X.1 0 k j = X.1 0 q j) → 10 - i < N → ∀ (H : Heap) (locs : List Loc), za_G E b (ad, S, X, T, Y, ow, dw) H → va_S (za_A b) s.heap H locs → ∀ ls : Array Slot, lv_has ls 3 [(0, .ref (ad 6 k)), (1, .ref (ad 6 q)), (2, .int (nI i))] → W pg l en ({ frames := 1, cells := 0, slots := 0, locals := 21 } : Room) s m ([.ref (ad 6 k), .ref (ad 6 q)] : List Value).toArray below meth c H locs (0) (0) (MQ below (za_Qi E b (fun r u => ((r = nI 1 ∧ ∀ j, j < 10 → X.1 0 k j = X.1 0 q j) ∨ (r = nI 0 ∧ ¬ ∀ j, j < 10 → X.1 0 k j = X.1 0 q j)) ∧ u = (ad, S, X, T, Y, ow, dw))) ([.ref (ad 6 k), .ref (ad 6 q)] : List Value).toArray s (0) (0) (za_A b)) (F0 m 2 ls []) := by
    intro N
    induction N with
    | zero => intro i hi hs hN; exact absurd hN (Nat.not_lt_zero _)
    | succ N ih2 =>
      intro i hi hs hN H locs hG hS ls hl
      refine lv_iload_n hx hb dX1_isSameAs_2 rfl (lv_at hl 2 rfl) ?_
      refine lv_aload_n hx hb dX1_isSameAs_3 rfl (lv_at hl 0 rfl) ?_
      refine zg_LY_row hx hb hts hinX1 hown hf9 hK hG k hk dX1_isSameAs_4 ?_
      refine zl_LR hx hb hK hG k hk dX1_isSameAs_7 ?_
      refine zb_icmp_ge (x := i) (y := 10) (tgt := 33) hx hb (by omega) (by omega) dX1_isSameAs_8 (by decide) (fun c_8 => ?_) (fun c_8 => ?_)
      · refine zb_iconst (n := 1) hx hb dX1_isSameAs_33 (by decide) ?_
        exact zm_zret hx hb hr rfl hlocks hG hS (by omega) (by omega) ⟨Or.inl ⟨rfl, fun j hj => hs j (by omega)⟩, rfl⟩ dX1_isSameAs_34
      · refine lv_aload_n hx hb dX1_isSameAs_11 rfl (lv_at hl 0 rfl) ?_
        refine zg_LY_row hx hb hts hinX1 hown hf9 hK hG k hk dX1_isSameAs_12 ?_
        refine lv_iload_n hx hb dX1_isSameAs_15 rfl (lv_at hl 2 rfl) ?_
        refine zld_LR (n := X.1 0 k i) hx hb hK hG k hk (by omega) rfl dX1_isSameAs_16 ?_
        refine lv_aload_n hx hb dX1_isSameAs_17 rfl (lv_at hl 1 rfl) ?_
        refine lv_iload_n hx hb dX1_isSameAs_18 rfl (lv_at hl 2 rfl) ?_
        refine zc_Vi (As := [.int (nI i)]) (rest := [.int (nI (X.1 0 k i))]) hK hZ hb0 hG hS hx hb hml hown hts (c_X1_of l q i hq (by omega)) (cwV 1 hts gX1_isSameAs_X1_of rfl rfl rfl (by decide +kernel) ⟨Nat.le_of_ble_eq_true rfl, Nat.le_of_ble_eq_true rfl⟩) (za_recv (q := (RX1, TX1, 1)) hK hG 6 q (show q < X.1 5 0 0 ∨ q = 10 from hq) rfl rfl rfl) rfl hl rfl (Nat.le_of_ble_eq_true rfl) dX1_isSameAs_19 ⟨Nat.le_of_ble_eq_true rfl, Nat.le_of_ble_eq_true rfl⟩ (fun r_19 u_19 H locs hp hG hS => ?_)
        obtain ⟨rfl, rfl⟩ := hp
        have hB1 := hB k i
        have hB2 := hB q i
        refine zb_icmp_eq (x := X.1 0 k i) (y := X.1 0 q i) (tgt := 27) hx hb (by omega) (by omega) dX1_isSameAs_22 (by decide) (fun c_22 => ?_) (fun c_22 => ?_)
        · refine zb_iinc (n := 1) (k := 2) (lv' := [(2, .int (nI (i + 1))), (0, .ref (ad 6 k)), (1, .ref (ad 6 q))]) hx hb dX1_isSameAs_27 hl rfl (by decide) (by decide) rfl (fun ls hl => ?_)
          refine zb_goto (tgt := 2) hx hb dX1_isSameAs_30 (by decide) ?_
          exact ih2 (i + 1) (by omega) (zs_lt_s hs c_22) (by omega) _ _ hG hS ls (lv_sub hl [1, 2, 0] rfl)
        · refine zb_iconst (n := 0) hx hb dX1_isSameAs_25 (by decide) ?_
          exact zm_zret hx hb hr rfl hlocks hG hS (by omega) (by omega) ⟨Or.inr ⟨rfl, fun h => c_22 (h i (by omega))⟩, rfl⟩ dX1_isSameAs_26
  exact loop2 (_ + 1) 0 (Nat.zero_le _) (fun j hj => absurd hj (Nat.not_lt_zero _)) (Nat.lt_succ_self _) _ _ hG hS ls (lv_sub hl [1, 2, 0] rfl)

set_option maxRecDepth 100000 in
set_option maxHeartbeats 4000000 in
theorem c_X1_needed (l : Launch) {E : za_E} {b : Nat} {ad : za_Ad} {S X T Y : za_S} {ow : Int64} {dw : UInt64} (k : Nat) (hk : k < X.1 5 0 0 ∨ k = 10) (hB : ∀ i j, X.1 0 i j < 2 ^ 31) : Met l yX1_needed wsX1_needed ({ frames := 1, cells := 0, slots := 0, locals := 20 } : Room) (za_Pc E b (ad, S, X, T, Y, ow, dw) [.ref (ad 6 k)]) (za_Qi E b (fun r u => r = nI (zs_sum (fun j => zs_need (X.1 0 k j)) 10) ∧ u = (ad, S, X, T, Y, ow, dw))) (0) (0) (za_A b) := by
  refine zm_met (ccm := cX1_needed) (maxL := 6) (ret := (some .int)) (ws' := _) (own := RX1) (lv := [(0, .ref (ad 6 k))]) (by decide) rfl rfl rfl (by simp [lg_sl, Value.category]) ?_
  intro pg en s m below meth c hx hb hml hr hown hts hlocks hK hZ hb0 hG hS ls hl
  have hf9 := hts (.fieldLink RX1 9 "VideoBridge$Layers" "row" "[I") (by decide +kernel)
  have hinX1 : ∀ w ∈ u_ws RX1 TX1 1, w ∈ wsX1_needed := by decide +kernel
  skip
  refine zb_iconst (n := 0) hx hb dX1_needed_0 (by decide) ?_
  refine lv_istore_n (lv' := [(1, .int (nI 0)), (0, .ref (ad 6 k))]) hx hb dX1_needed_1 rfl hl (by decide) rfl (fun ls hl => ?_)
  refine lv_aload_n hx hb dX1_needed_2 rfl (lv_at hl 1 rfl) ?_
  refine zg_LY_row hx hb hts hinX1 hown hf9 hK hG k hk dX1_needed_3 ?_
  refine lv_astore_n (lv' := [(2, .ref (ad 7 k)), (1, .int (nI 0)), (0, .ref (ad 6 k))]) hx hb dX1_needed_6 rfl hl (by decide) rfl (fun ls hl => ?_)
  refine lv_aload_n hx hb dX1_needed_7 rfl (lv_at hl 0 rfl) ?_
  refine zl_LR hx hb hK hG k hk dX1_needed_8 ?_
  refine lv_istore_n (lv' := [(3, .int (nI 10)), (2, .ref (ad 7 k)), (1, .int (nI 0)), (0, .ref (ad 6 k))]) hx hb dX1_needed_9 rfl hl (by decide) rfl (fun ls hl => ?_)
  refine zb_iconst (n := 0) hx hb dX1_needed_10 (by decide) ?_
  refine lv_istore (lv' := [(4, .int (nI 0)), (3, .int (nI 10)), (2, .ref (ad 7 k)), (1, .int (nI 0)), (0, .ref (ad 6 k))]) hx hb dX1_needed_11 hl (by decide) rfl (fun ls hl => ?_)
  have loop13 : ∀ (N : Nat) (i : Nat), (i ≤ 10) → 10 - i < N → ∀ (H : Heap) (locs : List Loc), za_G E b (ad, S, X, T, Y, ow, dw) H → va_S (za_A b) s.heap H locs → ∀ ls : Array Slot, lv_has ls 6 [(0, .ref (ad 6 k)), (1, .int (nI (zs_sum (fun j => zs_need (X.1 0 k j)) i))), (2, .ref (ad 7 k)), (3, .int (nI 10)), (4, .int (nI i))] → W pg l en ({ frames := 1, cells := 0, slots := 0, locals := 20 } : Room) s m ([.ref (ad 6 k)] : List Value).toArray below meth c H locs (0) (0) (MQ below (za_Qi E b (fun r u => r = nI (zs_sum (fun j => zs_need (X.1 0 k j)) 10) ∧ u = (ad, S, X, T, Y, ow, dw))) ([.ref (ad 6 k)] : List Value).toArray s (0) (0) (za_A b)) (F0 m 13 ls []) := by
    intro N
    induction N with
    | zero => intro i hi hN; exact absurd hN (Nat.not_lt_zero _)
    | succ N ih13 =>
      intro i hi hN H locs hG hS ls hl
      refine lv_iload hx hb dX1_needed_13 (lv_at hl 4 rfl) ?_
      refine lv_iload_n hx hb dX1_needed_15 rfl (lv_at hl 3 rfl) ?_
      refine zb_icmp_ge (x := i) (y := 10) (tgt := 39) hx hb (by omega) (by omega) dX1_needed_16 (by decide) (fun c_16 => ?_) (fun c_16 => ?_)
      · refine lv_iload_n hx hb dX1_needed_39 rfl (lv_at hl 1 rfl) ?_
        obtain rfl : i = 10 := by omega
        exact zm_iret hx hb hr hlocks hG hS (by omega) (by omega) ⟨rfl, rfl⟩ dX1_needed_40
      · refine lv_aload_n hx hb dX1_needed_19 rfl (lv_at hl 2 rfl) ?_
        refine lv_iload hx hb dX1_needed_20 (lv_at hl 4 rfl) ?_
        refine zld_LR (n := X.1 0 k i) hx hb hK hG k hk (by omega) rfl dX1_needed_22 ?_
        refine lv_istore (lv' := [(5, .int (nI (X.1 0 k i))), (0, .ref (ad 6 k)), (1, .int (nI (zs_sum (fun j => zs_need (X.1 0 k j)) i))), (2, .ref (ad 7 k)), (3, .int (nI 10)), (4, .int (nI i))]) hx hb dX1_needed_23 hl (by decide) rfl (fun ls hl => ?_)
        refine lv_iload_n hx hb dX1_needed_25 rfl (lv_at hl 2 rfl) ?_
        refine lv_iload hx hb dX1_needed_26 (lv_at hl 0 rfl) ?_
        refine zc_Ni (As := [.int (nI (X.1 0 k i))]) (rest := [.int (nI (zs_sum (fun j => zs_need (X.1 0 k j)) i))]) hK hZ hb0 hG hS hx hb hml hown hts (c_X6_need l (X.1 0 k i) (hB k i)) ⟨va_cnB (host := RX6) 1 hts gX1_needed_X6_need_n25 rfl rfl rfl (hZ.2.2.2.2.1 (RX1, 25, yX6_need) (by simp [za_nests])) (hts (.initialized RX6) (by decide +kernel)) (by decide +kernel) ⟨Nat.le_of_ble_eq_true rfl, Nat.le_of_ble_eq_true rfl⟩, hts (.static yX6_need) (by decide +kernel), trivial⟩ rfl hl rfl (Nat.le_of_ble_eq_true rfl) dX1_needed_28 ⟨Nat.le_of_ble_eq_true rfl, Nat.le_of_ble_eq_true rfl⟩ (fun r_28 u_28 H locs hp hG hS => ?_)
        obtain ⟨rfl, rfl⟩ := hp
        refine zb_iadd hx hb dX1_needed_31 ?_
        refine lv_istore_n (lv' := [(1, .int (nI ((zs_sum (fun j => zs_need (X.1 0 k j)) i) + (zs_need (X.1 0 k i))))), (5, .int (nI (X.1 0 k i))), (0, .ref (ad 6 k)), (2, .ref (ad 7 k)), (3, .int (nI 10)), (4, .int (nI i))]) hx hb dX1_needed_32 rfl hl (by decide) rfl (fun ls hl => ?_)
        refine zb_iinc (n := 1) (k := 5) (lv' := [(4, .int (nI (i + 1))), (1, .int (nI ((zs_sum (fun j => zs_need (X.1 0 k j)) i) + (zs_need (X.1 0 k i))))), (5, .int (nI (X.1 0 k i))), (0, .ref (ad 6 k)), (2, .ref (ad 7 k)), (3, .int (nI 10))]) hx hb dX1_needed_33 hl rfl (by decide) (by decide) rfl (fun ls hl => ?_)
        refine zb_goto (tgt := 13) hx hb dX1_needed_36 (by decide) ?_
        exact ih13 (i + 1) (by omega) (by omega) _ _ hG hS ls (lv_sub hl [3, 1, 4, 5, 0] rfl)
  exact loop13 (_ + 1) 0 (Nat.zero_le _) (Nat.lt_succ_self _) _ _ hG hS ls (lv_sub hl [4, 3, 2, 1, 0] rfl)
