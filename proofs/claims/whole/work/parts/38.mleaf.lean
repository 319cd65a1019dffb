set_option maxRecDepth 100000 in
set_option maxHeartbeats 4000000 in
theorem c_X7_in (l : Launch) {E : za_E} {b : Nat} {ad : za_Ad} {S X T Y : za_S} {ow : Int64} {dw : UInt64} (v lo hi : Int32)  : Met l yX7_in wsX7_in ({ frames := 0, cells := 0, slots := 0, locals := 0 } : Room) (za_Pc E b (ad, S, X, T, Y, ow, dw) [.int v, .int lo, .int hi]) (za_Qi E b (fun r u => r = nI (zm_in v lo hi) ∧ u = (ad, S, X, T, Y, ow, dw))) (0) (0) (za_A b) := by
  refine zm_met (ccm := cX7_in) (maxL := 3) (ret := (some .boolean)) (ws' := _) (own := RX7) (lv := [(0, .int v), (1, .int lo), (2, .int hi)]) (by decide) rfl rfl rfl (by simp [lg_sl, Value.category]) ?_
  intro pg en s m below meth c hx hb hml hr hown hts hlocks hK hZ hb0 hG hS ls hl
  skip
  refine lv_iload_n hx hb dX7_in_0 rfl (lv_at hl 0 rfl) ?_
  refine lv_iload_n hx hb dX7_in_1 rfl (lv_at hl 1 rfl) ?_
  refine lv_icmp_lt (tgt := 14) hx hb dX7_in_2 (by decide) (fun c_2 => ?_) (fun c_2 => ?_)
  · refine zb_iconst (n := 0) hx hb dX7_in_14 (by decide) ?_
    exact zm_zret hx hb hr rfl hlocks hG hS (by omega) (by omega) ⟨by unfold zm_in; first | rw [if_pos c_2] | rw [if_neg c_2, if_pos c_7] | rw [if_neg c_2, if_neg c_7], rfl⟩ dX7_in_15
  · refine lv_iload_n hx hb dX7_in_5 rfl (lv_at hl 0 rfl) ?_
    refine lv_iload_n hx hb dX7_in_6 rfl (lv_at hl 2 rfl) ?_
    refine lv_icmp_gt (tgt := 14) hx hb dX7_in_7 (by decide) (fun c_7 => ?_) (fun c_7 => ?_)
    · refine zb_iconst (n := 0) hx hb dX7_in_14 (by decide) ?_
      exact zm_zret hx hb hr rfl hlocks hG hS (by omega) (by omega) ⟨by unfold zm_in; first | rw [if_pos c_2] | rw [if_neg c_2, if_pos c_7] | rw [if_neg c_2, if_neg c_7], rfl⟩ dX7_in_15
    · refine zb_iconst (n := 1) hx hb dX7_in_10 (by decide) ?_
      refine zb_goto (tgt := 15) hx hb dX7_in_11 (by decide) ?_
      exact zm_zret hx hb hr rfl hlocks hG hS (by omega) (by omega) ⟨by unfold zm_in; first | rw [if_pos c_2] | rw [if_neg c_2, if_pos c_7] | rw [if_neg c_2, if_neg c_7], rfl⟩ dX7_in_15

set_option maxRecDepth 100000 in
set_option maxHeartbeats 4000000 in
theorem c_X7_fails (l : Launch) {E : za_E} {b : Nat} {ad : za_Ad} {S X T Y : za_S} {ow : Int64} {dw : UInt64} (w : Nat)  : Met l yX7_fails wsX7_fails ({ frames := 0, cells := 0, slots := 0, locals := 0 } : Room) (za_Pc E b (ad, S, X, T, Y, ow, dw) [.ref (ad 14 0), .int (nI w)]) (za_Qi E b (fun r u => r = nI 0 ∧ u = (ad, S, X, T, za_N Y 0 0 0 w, ow, dw))) (0) (0) (za_A b) := by
  refine zm_met (ccm := cX7_fails) (maxL := 2) (ret := (some .int)) (ws' := _) (own := RX7) (lv := [(0, .ref (ad 14 0)), (1, .int (nI w))]) (by decide) rfl rfl rfl (by simp [lg_sl, Value.category]) ?_
  intro pg en s m below meth c hx hb hml hr hown hts hlocks hK hZ hb0 hG hS ls hl
  have hf66 := hts (.fieldLink RX7 66 "VideoBridgeModel" "code" "I") (by decide +kernel)
  have hinX7 : ∀ w ∈ u_ws RX7 TX7 25, w ∈ wsX7_fails := by decide +kernel
  skip
  refine lv_aload_n hx hb dX7_fails_0 rfl (lv_at hl 0 rfl) ?_
  refine lv_iload_n hx hb dX7_fails_1 rfl (lv_at hl 1 rfl) ?_
  refine zp_MO_code hx hb hts hinX7 hown hf66 hS hK hG dX7_fails_2 (fun H locs hG hS => ?_)
  refine zb_iconst (n := 0) hx hb dX7_fails_5 (by decide) ?_
  exact zm_iret hx hb hr hlocks hG hS (by omega) (by omega) ⟨rfl, rfl⟩ dX7_fails_6

set_option maxRecDepth 100000 in
set_option maxHeartbeats 4000000 in
theorem c_X7_isPerson (l : Launch) {E : za_E} {b : Nat} {ad : za_Ad} {S X T Y : za_S} {ow : Int64} {dw : UInt64} (x : Int32) (hBT : zs_B T) : Met l yX7_isPerson wsX7_isPerson ({ frames := 1, cells := 0, slots := 0, locals := 22 } : Room) (za_Pc E b (ad, S, X, T, Y, ow, dw) [.ref (ad 14 0), .int x]) (za_Qi E b (fun r u => r = nI (if zs_ix x < T.1 0 0 0 then 1 else 0) ∧ u = (ad, S, X, T, Y, ow, dw))) (0) (0) (za_A b) := by
  refine zm_met (ccm := cX7_isPerson) (maxL := 2) (ret := (some .boolean)) (ws' := _) (own := RX7) (lv := [(0, .ref (ad 14 0)), (1, .int x)]) (by decide) rfl rfl rfl (by simp [lg_sl, Value.category]) ?_
  intro pg en s m below meth c hx hb hml hr hown hts hlocks hK hZ hb0 hG hS ls hl
  have hf70 := hts (.fieldLink RX7 70 "VideoBridgeModel" "people" "I") (by decide +kernel)
  have hinX7 : ∀ w ∈ u_ws RX7 TX7 25, w ∈ wsX7_isPerson := by decide +kernel
  skip
  refine lv_iload_n hx hb dX7_isPerson_0 rfl (lv_at hl 1 rfl) ?_
  refine zb_iconst (n := 0) hx hb dX7_isPerson_1 (by decide) ?_
  refine lv_aload_n hx hb dX7_isPerson_2 rfl (lv_at hl 0 rfl) ?_
  refine zg_MO_people hx hb hts hinX7 hown hf70 hK hG (n := T.1 0 0 0) rfl dX7_isPerson_3 ?_
  refine zb_iconst (n := 1) hx hb dX7_isPerson_6 (by decide) ?_
  refine lv_isub hx hb dX7_isPerson_7 ?_
  refine zc_Si (As := [.int x, .int (nI 0), .int (nI (T.1 0 0 0) - nI 1)]) (rest := []) hK hZ hb0 hG hS hx hb hml hown hts (c_X7_in l x (nI 0) (nI (T.1 0 0 0) - nI 1)) (cwS 3 hts gX7_isPerson_X7_in rfl rfl rfl (by decide +kernel) ⟨Nat.le_of_ble_eq_true rfl, Nat.le_of_ble_eq_true rfl⟩) rfl hl rfl (Nat.le_of_ble_eq_true rfl) dX7_isPerson_8 ⟨Nat.le_of_ble_eq_true rfl, Nat.le_of_ble_eq_true rfl⟩ (fun r_8 u_8 H locs hp hG hS => ?_)
  rw [zm_in_0 (hBT _ _ _)] at hp
  obtain ⟨rfl, rfl⟩ := hp
  exact zm_zret hx hb hr (by split <;> rfl) hlocks hG hS (by omega) (by omega) ⟨rfl, rfl⟩ dX7_isPerson_11

set_option maxRecDepth 100000 in
set_option maxHeartbeats 4000000 in
theorem c_X7_isRoom (l : Launch) {E : za_E} {b : Nat} {ad : za_Ad} {S X T Y : za_S} {ow : Int64} {dw : UInt64} (x : Int32) (hBT : zs_B T) : Met l yX7_isRoom wsX7_isRoom ({ frames := 1, cells := 0, slots := 0, locals := 22 } : Room) (za_Pc E b (ad, S, X, T, Y, ow, dw) [.ref (ad 14 0), .int x]) (za_Qi E b (fun r u => r = nI (if zs_ix x < T.1 0 1 0 then 1 else 0) ∧ u = (ad, S, X, T, Y, ow, dw))) (0) (0) (za_A b) := by
  refine zm_met (ccm := cX7_isRoom) (maxL := 2) (ret := (some .boolean)) (ws' := _) (own := RX7) (lv := [(0, .ref (ad 14 0)), (1, .int x)]) (by decide) rfl rfl rfl (by simp [lg_sl, Value.category]) ?_
  intro pg en s m below meth c hx hb hml hr hown hts hlocks hK hZ hb0 hG hS ls hl
  have hf77 := hts (.fieldLink RX7 77 "VideoBridgeModel" "rooms" "I") (by decide +kernel)
  have hinX7 : ∀ w ∈ u_ws RX7 TX7 25, w ∈ wsX7_isRoom := by decide +kernel
  skip
  refine lv_iload_n hx hb dX7_isRoom_0 rfl (lv_at hl 1 rfl) ?_
  refine zb_iconst (n := 0) hx hb dX7_isRoom_1 (by decide) ?_
  refine lv_aload_n hx hb dX7_isRoom_2 rfl (lv_at hl 0 rfl) ?_
  refine zg_MO_rooms hx hb hts hinX7 hown hf77 hK hG (n := T.1 0 1 0) rfl dX7_isRoom_3 ?_
  refine zb_iconst (n := 1) hx hb dX7_isRoom_6 (by decide) ?_
  refine lv_isub hx hb dX7_isRoom_7 ?_
  refine zc_Si (As := [.int x, .int (nI 0), .int (nI (T.1 0 1 0) - nI 1)]) (rest := []) hK hZ hb0 hG hS hx hb hml hown hts (c_X7_in l x (nI 0) (nI (T.1 0 1 0) - nI 1)) (cwS 3 hts gX7_isRoom_X7_in rfl rfl rfl (by decide +kernel) ⟨Nat.le_of_ble_eq_true rfl, Nat.le_of_ble_eq_true rfl⟩) rfl hl rfl (Nat.le_of_ble_eq_true rfl) dX7_isRoom_8 ⟨Nat.le_of_ble_eq_true rfl, Nat.le_of_ble_eq_true rfl⟩ (fun r_8 u_8 H locs hp hG hS => ?_)
  rw [zm_in_0 (hBT _ _ _)] at hp
  obtain ⟨rfl, rfl⟩ := hp
  exact zm_zret hx hb hr (by split <;> rfl) hlocks hG hS (by omega) (by omega) ⟨rfl, rfl⟩ dX7_isRoom_11

set_option maxRecDepth 100000 in
set_option maxHeartbeats 4000000 in
theorem c_X7_isRecorder (l : Launch) {E : za_E} {b : Nat} {ad : za_Ad} {S X T Y : za_S} {ow : Int64} {dw : UInt64} (x : Int32) (hBT : zs_B T) : Met l yX7_isRecorder wsX7_isRecorder ({ frames := 1, cells := 0, slots := 0, locals := 22 } : Room) (za_Pc E b (ad, S, X, T, Y, ow, dw) [.ref (ad 14 0), .int x]) (za_Qi E b (fun r u => r = nI (if zs_ix x < T.1 0 2 0 then 1 else 0) ∧ u = (ad, S, X, T, Y, ow, dw))) (0) (0) (za_A b) := by
  refine zm_met (ccm := cX7_isRecorder) (maxL := 2) (ret := (some .boolean)) (ws' := _) (own := RX7) (lv := [(0, .ref (ad 14 0)), (1, .int x)]) (by decide) rfl rfl rfl (by simp [lg_sl, Value.category]) ?_
  intro pg en s m below meth c hx hb hml hr hown hts hlocks hK hZ hb0 hG hS ls hl
  have hf80 := hts (.fieldLink RX7 80 "VideoBridgeModel" "recorders" "I") (by decide +kernel)
  have hinX7 : ∀ w ∈ u_ws RX7 TX7 25, w ∈ wsX7_isRecorder := by decide +kernel
  skip
  refine lv_iload_n hx hb dX7_isRecorder_0 rfl (lv_at hl 1 rfl) ?_
  refine zb_iconst (n := 0) hx hb dX7_isRecorder_1 (by decide) ?_
  refine lv_aload_n hx hb dX7_isRecorder_2 rfl (lv_at hl 0 rfl) ?_
  refine zg_MO_recorders hx hb hts hinX7 hown hf80 hK hG (n := T.1 0 2 0) rfl dX7_isRecorder_3 ?_
  refine zb_iconst (n := 1) hx hb dX7_isRecorder_6 (by decide) ?_
  refine lv_isub hx hb dX7_isRecorder_7 ?_
  refine zc_Si (As := [.int x, .int (nI 0), .int (nI (T.1 0 2 0) - nI 1)]) (rest := []) hK hZ hb0 hG hS hx hb hml hown hts (c_X7_in l x (nI 0) (nI (T.1 0 2 0) - nI 1)) (cwS 3 hts gX7_isRecorder_X7_in rfl rfl rfl (by decide +kernel) ⟨Nat.le_of_ble_eq_true rfl, Nat.le_of_ble_eq_true rfl⟩) rfl hl rfl (Nat.le_of_ble_eq_true rfl) dX7_isRecorder_8 ⟨Nat.le_of_ble_eq_true rfl, Nat.le_of_ble_eq_true rfl⟩ (fun r_8 u_8 H locs hp hG hS => ?_)
  rw [zm_in_0 (hBT _ _ _)] at hp
  obtain ⟨rfl, rfl⟩ := hp
  exact zm_zret hx hb hr (by split <;> rfl) hlocks hG hS (by omega) (by omega) ⟨rfl, rfl⟩ dX7_isRecorder_11

set_option maxRecDepth 100000 in
set_option maxHeartbeats 4000000 in
theorem c_X7_thrown (l : Launch) {E : za_E} {b : Nat} {ad : za_Ad} {S X T Y : za_S} {ow : Int64} {dw : UInt64}   : Met l yX7_thrown wsX7_thrown ({ frames := 0, cells := 0, slots := 0, locals := 0 } : Room) (za_Pc E b (ad, S, X, T, Y, ow, dw) [.ref (ad 14 0)]) (za_Qi E b (fun r u => r = nI (Y.1 0 0 0) ∧ u = (ad, S, X, T, Y, ow, dw))) (0) (0) (za_A b) := by
  refine zm_met (ccm := cX7_thrown) (maxL := 1) (ret := (some .int)) (ws' := _) (own := RX7) (lv := [(0, .ref (ad 14 0))]) (by decide) rfl rfl rfl (by simp [lg_sl, Value.category]) ?_
  intro pg en s m below meth c hx hb hml hr hown hts hlocks hK hZ hb0 hG hS ls hl
  have hf66 := hts (.fieldLink RX7 66 "VideoBridgeModel" "code" "I") (by decide +kernel)
  have hinX7 : ∀ w ∈ u_ws RX7 TX7 25, w ∈ wsX7_thrown := by decide +kernel
  skip
  refine lv_aload_n hx hb dX7_thrown_0 rfl (lv_at hl 0 rfl) ?_
  refine zg_MO_code hx hb hts hinX7 hown hf66 hK hG (n := Y.1 0 0 0) rfl dX7_thrown_1 ?_
  exact zm_iret hx hb hr hlocks hG hS (by omega) (by omega) ⟨rfl, rfl⟩ dX7_thrown_4

set_option maxRecDepth 100000 in
set_option maxHeartbeats 4000000 in
theorem c_X7_goesIn (l : Launch) {E : za_E} {b : Nat} {ad : za_Ad} {S X T Y : za_S} {ow : Int64} {dw : UInt64} (p r : Nat) (hp10 : p < 10) (hr6 : r < 6) (hsz : T.1 5 r 0 < 10) : Met l yX7_goesIn wsX7_goesIn ({ frames := 0, cells := 0, slots := 0, locals := 0 } : Room) (za_Pc E b (ad, S, X, T, Y, ow, dw) [.ref (ad 14 0), .int (nI p), .int (nI r)]) (za_Qv E b (fun u => u = (ad, S, X, za_P (zs_in T r p) 0 p 0 (some r), Y, ow, dw))) (0) (0) (za_A b) := by
  refine zm_met (ccm := cX7_goesIn) (maxL := 3) (ret := none) (ws' := _) (own := RX7) (lv := [(0, .ref (ad 14 0)), (1, .int (nI p)), (2, .int (nI r))]) (by decide) rfl rfl rfl (by simp [lg_sl, Value.category]) ?_
  intro pg en s m below meth c hx hb hml hr hown hts hlocks hK hZ hb0 hG hS ls hl
  have hf19 := hts (.fieldLink RX7 19 "VideoBridgeModel" "roomOf" "[I") (by decide +kernel)
  have hf29 := hts (.fieldLink RX7 29 "VideoBridgeModel" "sizes" "[I") (by decide +kernel)
  have hf32 := hts (.fieldLink RX7 32 "VideoBridgeModel" "who" "[I") (by decide +kernel)
  have hinX7 : ∀ w ∈ u_ws RX7 TX7 25, w ∈ wsX7_goesIn := by decide +kernel
  skip
  refine lv_aload_n hx hb dX7_goesIn_0 rfl (lv_at hl 0 rfl) ?_
  refine zg_MO_who hx hb hts hinX7 hown hf32 hK hG dX7_goesIn_1 ?_
  refine zb_bipush (n := 10) hx hb dX7_goesIn_4 (by decide) ?_
  refine lv_iload_n hx hb dX7_goesIn_6 rfl (lv_at hl 2 rfl) ?_
  refine zb_imul hx hb dX7_goesIn_7 ?_
  refine lv_aload_n hx hb dX7_goesIn_8 rfl (lv_at hl 0 rfl) ?_
  refine zg_MO_sizes hx hb hts hinX7 hown hf29 hK hG dX7_goesIn_9 ?_
  refine lv_iload_n hx hb dX7_goesIn_12 rfl (lv_at hl 2 rfl) ?_
  refine zld_MZ (n := T.1 5 r 0) hx hb hK hG (by omega) rfl dX7_goesIn_13 ?_
  refine zb_iadd hx hb dX7_goesIn_14 ?_
  refine lv_iload_n hx hb dX7_goesIn_15 rfl (lv_at hl 1 rfl) ?_
  refine zst_MW hx hb hK hG hS (r := r) (q := T.1 5 r 0) (by omega) (by omega) dX7_goesIn_16 (fun H locs hG hS => ?_)
  refine lv_aload_n hx hb dX7_goesIn_17 rfl (lv_at hl 0 rfl) ?_
  refine zg_MO_sizes hx hb hts hinX7 hown hf29 hK hG dX7_goesIn_18 ?_
  refine lv_iload_n hx hb dX7_goesIn_21 rfl (lv_at hl 2 rfl) ?_
  refine lv_dup2_11 hx hb dX7_goesIn_22 rfl rfl ?_
  refine zld_MZ (n := T.1 5 r 0) hx hb hK hG (by omega) rfl dX7_goesIn_23 ?_
  refine zb_iconst (n := 1) hx hb dX7_goesIn_24 (by decide) ?_
  refine zb_iadd hx hb dX7_goesIn_25 ?_
  refine zst_MZ hx hb hK hG hS (by omega) dX7_goesIn_26 (fun H locs hG hS => ?_)
  refine lv_aload_n hx hb dX7_goesIn_27 rfl (lv_at hl 0 rfl) ?_
  refine zg_MO_roomOf hx hb hts hinX7 hown hf19 hK hG dX7_goesIn_28 ?_
  refine lv_iload_n hx hb dX7_goesIn_31 rfl (lv_at hl 1 rfl) ?_
  refine lv_iload_n hx hb dX7_goesIn_32 rfl (lv_at hl 2 rfl) ?_
  refine W.eq (g2 := F0 m 33 ls (.int (za_enc (some r)) :: [.int (nI p), .ref (ad 18 0)])) rfl ?_
  refine zst_MR hx hb hK hG hS (by omega) dX7_goesIn_33 (fun H locs hG hS => ?_)
  exact zm_vret hx hb hr hlocks hG hS (by omega) (by omega) rfl dX7_goesIn_34

set_option maxRecDepth 100000 in
set_option maxHeartbeats 4000000 in
theorem c_X7_goesOut (l : Launch) {E : za_E} {b : Nat} {ad : za_Ad} {S X T Y : za_S} {ow : Int64} {dw : UInt64} (p r k : Nat) (hp10 : p < 10) (hr6 : r < 6) (hro : T.2 0 p 0 = some r) (hsz : T.1 5 r 0 ≤ 10) (hoc : ∀ j, j < T.1 5 r 0 → ∃ x, T.2 2 r j = some x ∧ x < 10) (hk : k < T.1 5 r 0) (hk2 : T.2 2 r k = some p) (hk3 : ∀ j, j < k → T.2 2 r j ≠ some p) (hb3 : ∀ x, T.2 3 r 0 = some x → x < 2 ^ 31) (hb4 : ∀ x, T.2 4 r 0 = some x → x < 2 ^ 31) (hBT : zs_B T) : Met l yX7_goesOut wsX7_goesOut ({ frames := 0, cells := 0, slots := 0, locals := 0 } : Room) (za_Pc E b (ad, S, X, T, Y, ow, dw) [.ref (ad 14 0), .int (nI p)]) (za_Qv E b (fun u => u = (ad, S, X, za_P (zs_out T r p k) 0 p 0 none, Y, ow, dw))) (0) (0) (za_A b) := by
  refine zm_met (ccm := cX7_goesOut) (maxL := 5) (ret := none) (ws' := _) (own := RX7) (lv := [(0, .ref (ad 14 0)), (1, .int (nI p))]) (by decide) rfl rfl rfl (by simp [lg_sl, Value.category]) ?_
  intro pg en s m below meth c hx hb hml hr hown hts hlocks hK hZ hb0 hG hS ls hl
  have hf19 := hts (.fieldLink RX7 19 "VideoBridgeModel" "roomOf" "[I") (by decide +kernel)
  have hf29 := hts (.fieldLink RX7 29 "VideoBridgeModel" "sizes" "[I") (by decide +kernel)
  have hf32 := hts (.fieldLink RX7 32 "VideoBridgeModel" "who" "[I") (by decide +kernel)
  have hf35 := hts (.fieldLink RX7 35 "VideoBridgeModel" "speakers" "[I") (by decide +kernel)
  have hf38 := hts (.fieldLink RX7 38 "VideoBridgeModel" "challengers" "[I") (by decide +kernel)
  have hf41 := hts (.fieldLink RX7 41 "VideoBridgeModel" "challenges" "[I") (by decide +kernel)
  have hinX7 : ∀ w ∈ u_ws RX7 TX7 25, w ∈ wsX7_goesOut := by decide +kernel
  skip
  refine lv_aload_n hx hb dX7_goesOut_0 rfl (lv_at hl 0 rfl) ?_
  refine zg_MO_roomOf hx hb hts hinX7 hown hf19 hK hG dX7_goesOut_1 ?_
  refine lv_iload_n hx hb dX7_goesOut_4 rfl (lv_at hl 1 rfl) ?_
  refine zld_MR (r := T.2 0 p 0) hx hb hK hG (by omega) rfl dX7_goesOut_5 ?_
  refine W.eq (g2 := F0 m 6 ls [.int (nI r)]) (by rw [hro]; rfl) ?_
  refine lv_istore_n (lv' := [(2, .int (nI r)), (0, .ref (ad 14 0)), (1, .int (nI p))]) hx hb dX7_goesOut_6 rfl hl (by decide) rfl (fun ls hl => ?_)
  refine zb_iconst (n := 0) hx hb dX7_goesOut_7 (by decide) ?_
  refine lv_istore_n (lv' := [(3, .int (nI 0)), (2, .int (nI r)), (0, .ref (ad 14 0)), (1, .int (nI p))]) hx hb dX7_goesOut_8 rfl hl (by decide) rfl (fun ls hl => ?_)
  have loop9 : ∀ (N : Nat) (i : Nat), (i ≤ k) → k + 1 - i < N → ∀ (H : Heap) (locs : List Loc), za_G E b (ad, S, X, T, Y, ow, dw) H → va_S (za_A b) s.heap H locs → ∀ ls : Array Slot, lv_has ls 5 [(0, .ref (ad 14 0)), (1, .int (nI p)), (2, .int (nI r)), (3, .int (nI i))] → W pg l en ({ frames := 0, cells := 0, slots := 0, locals := 0 } : Room) s m ([.ref (ad 14 0), .int (nI p)] : List Value).toArray below meth c H locs (0) (0) (MQ below (za_Qv E b (fun u => u = (ad, S, X, za_P (zs_out T r p k) 0 p 0 none, Y, ow, dw))) ([.ref (ad 14 0), .int (nI p)] : List Value).toArray s (0) (0) (za_A b)) (F0 m 9 ls []) := by
    intro N
    induction N with
    | zero => intro i hi hN; exact absurd hN (Nat.not_lt_zero _)
    | succ N ih9 =>
      intro i hi hN H locs hG hS ls hl
      obtain ⟨x9, hx9, hx10⟩ := hoc i (by omega)
      refine lv_aload_n hx hb dX7_goesOut_9 rfl (lv_at hl 0 rfl) ?_
      refine zg_MO_who hx hb hts hinX7 hown hf32 hK hG dX7_goesOut_10 ?_
      refine zb_bipush (n := 10) hx hb dX7_goesOut_13 (by decide) ?_
      refine lv_iload_n hx hb dX7_goesOut_15 rfl (lv_at hl 2 rfl) ?_
      refine zb_imul hx hb dX7_goesOut_16 ?_
      refine lv_iload_n hx hb dX7_goesOut_17 rfl (lv_at hl 3 rfl) ?_
      refine zb_iadd hx hb dX7_goesOut_18 ?_
      refine zld_MW hx hb hK hG (by omega) (zs_wh rfl (by omega) hx9) dX7_goesOut_19 ?_
      refine lv_iload_n hx hb dX7_goesOut_20 rfl (lv_at hl 1 rfl) ?_
      refine zb_icmp_eq (x := x9) (y := p) (tgt := 30) hx hb (by omega) (by omega) dX7_goesOut_21 (by decide) (fun c_21 => ?_) (fun c_21 => ?_)
      · obtain rfl : k = i := by
          rcases Nat.lt_or_ge i k with h9 | h9
          · exact absurd (by rw [hx9, c_21]) (hk3 i h9)
          · omega
        refine lv_iload_n hx hb dX7_goesOut_30 rfl (lv_at hl 3 rfl) ?_
        refine lv_istore (lv' := [(4, .int (nI k)), (0, .ref (ad 14 0)), (1, .int (nI p)), (2, .int (nI r)), (3, .int (nI k))]) hx hb dX7_goesOut_31 hl (by decide) rfl (fun ls hl => ?_)
        have loop33 : ∀ (N : Nat) (q : Nat), (k ≤ q) → (q ≤ T.1 5 r 0 - 1) → T.1 5 r 0 - q < N → ∀ (H : Heap) (locs : List Loc), za_G E b (ad, S, X, (zs_sh T r k q), Y, ow, dw) H → va_S (za_A b) s.heap H locs → ∀ ls : Array Slot, lv_has ls 5 [(0, .ref (ad 14 0)), (1, .int (nI p)), (2, .int (nI r)), (3, .int (nI k)), (4, .int (nI q))] → W pg l en ({ frames := 0, cells := 0, slots := 0, locals := 0 } : Room) s m ([.ref (ad 14 0), .int (nI p)] : List Value).toArray below meth c H locs (0) (0) (MQ below (za_Qv E b (fun u => u = (ad, S, X, za_P (zs_out T r p k) 0 p 0 none, Y, ow, dw))) ([.ref (ad 14 0), .int (nI p)] : List Value).toArray s (0) (0) (za_A b)) (F0 m 33 ls []) := by
          intro N
          induction N with
          | zero => intro q hq hq2 hN; exact absurd hN (Nat.not_lt_zero _)
          | succ N ih33 =>
            intro q hq hq2 hN H locs hG hS ls hl
            refine lv_iload hx hb dX7_goesOut_33 (lv_at hl 4 rfl) ?_
            refine zb_iconst (n := 1) hx hb dX7_goesOut_35 (by decide) ?_
            refine zb_iadd hx hb dX7_goesOut_36 ?_
            refine lv_aload_n hx hb dX7_goesOut_37 rfl (lv_at hl 0 rfl) ?_
            refine zg_MO_sizes hx hb hts hinX7 hown hf29 hK hG dX7_goesOut_38 ?_
            refine lv_iload_n hx hb dX7_goesOut_41 rfl (lv_at hl 2 rfl) ?_
            refine zld_MZ (n := T.1 5 r 0) hx hb hK hG (by omega) rfl dX7_goesOut_42 ?_
            refine zb_icmp_ge (x := q + 1) (y := T.1 5 r 0) (tgt := 78) hx hb (by omega) (by have := hBT 5 r 0; omega) dX7_goesOut_43 (by decide) (fun c_43 => ?_) (fun c_43 => ?_)
            · obtain rfl : q = T.1 5 r 0 - 1 := by omega
              refine lv_aload_n hx hb dX7_goesOut_78 rfl (lv_at hl 0 rfl) ?_
              refine zg_MO_sizes hx hb hts hinX7 hown hf29 hK hG dX7_goesOut_79 ?_
              refine lv_iload_n hx hb dX7_goesOut_82 rfl (lv_at hl 2 rfl) ?_
              refine lv_dup2_11 hx hb dX7_goesOut_83 rfl rfl ?_
              refine zld_MZ (n := T.1 5 r 0) hx hb hK hG (by omega) rfl dX7_goesOut_84 ?_
              refine zb_iconst (n := 1) hx hb dX7_goesOut_85 (by decide) ?_
              refine zb_isub hx hb (by omega) dX7_goesOut_86 ?_
              refine zst_MZ hx hb hK hG hS (by omega) dX7_goesOut_87 (fun H locs hG hS => ?_)
              refine lv_aload_n hx hb dX7_goesOut_88 rfl (lv_at hl 0 rfl) ?_
              refine zg_MO_roomOf hx hb hts hinX7 hown hf19 hK hG dX7_goesOut_89 ?_
              refine lv_iload_n hx hb dX7_goesOut_92 rfl (lv_at hl 1 rfl) ?_
              refine zb_iconstm hx hb dX7_goesOut_93 ?_
              refine zst_MR hx hb hK hG hS (by omega) dX7_goesOut_94 (fun H locs hG hS => ?_)
              refine lv_aload_n hx hb dX7_goesOut_95 rfl (lv_at hl 0 rfl) ?_
              refine zg_MO_speakers hx hb hts hinX7 hown hf35 hK hG dX7_goesOut_96 ?_
              refine lv_iload_n hx hb dX7_goesOut_99 rfl (lv_at hl 2 rfl) ?_
              refine lv_aload_n hx hb dX7_goesOut_100 rfl (lv_at hl 0 rfl) ?_
              refine zg_MO_speakers hx hb hts hinX7 hown hf35 hK hG dX7_goesOut_101 ?_
              refine lv_iload_n hx hb dX7_goesOut_104 rfl (lv_at hl 2 rfl) ?_
              refine zld_MK (r := T.2 3 r 0) hx hb hK hG (by omega) rfl dX7_goesOut_105 ?_
              refine lv_iload_n hx hb dX7_goesOut_106 rfl (lv_at hl 1 rfl) ?_
              refine zb_ecmp_ne (tgt := 114) hx hb (T.2 3 r 0) (some p) hb3 (by rintro _ ⟨⟩; omega) dX7_goesOut_107 (by decide) (fun c_107 => ?_) (fun c_107 => ?_)
              · refine lv_aload_n hx hb dX7_goesOut_114 rfl (lv_at hl 0 rfl) ?_
                refine zg_MO_speakers hx hb hts hinX7 hown hf35 hK hG dX7_goesOut_115 ?_
                refine lv_iload_n hx hb dX7_goesOut_118 rfl (lv_at hl 2 rfl) ?_
                refine zld_MK (r := T.2 3 r 0) hx hb hK hG (by omega) rfl dX7_goesOut_119 ?_
                refine zst_MK hx hb hK hG hS (by omega) dX7_goesOut_120 (fun H locs hG hS => ?_)
                refine lv_aload_n hx hb dX7_goesOut_121 rfl (lv_at hl 0 rfl) ?_
                refine zg_MO_challenges hx hb hts hinX7 hown hf41 hK hG dX7_goesOut_122 ?_
                refine lv_iload_n hx hb dX7_goesOut_125 rfl (lv_at hl 2 rfl) ?_
                refine lv_aload_n hx hb dX7_goesOut_126 rfl (lv_at hl 0 rfl) ?_
                refine zg_MO_challengers hx hb hts hinX7 hown hf38 hK hG dX7_goesOut_127 ?_
                refine lv_iload_n hx hb dX7_goesOut_130 rfl (lv_at hl 2 rfl) ?_
                refine zld_MC (r := T.2 4 r 0) hx hb hK hG (by omega) rfl dX7_goesOut_131 ?_
                refine lv_iload_n hx hb dX7_goesOut_132 rfl (lv_at hl 1 rfl) ?_
                refine zb_ecmp_ne (tgt := 140) hx hb (T.2 4 r 0) (some p) hb4 (by rintro _ ⟨⟩; omega) dX7_goesOut_133 (by decide) (fun c_133 => ?_) (fun c_133 => ?_)
                · refine lv_aload_n hx hb dX7_goesOut_140 rfl (lv_at hl 0 rfl) ?_
                  refine zg_MO_challenges hx hb hts hinX7 hown hf41 hK hG dX7_goesOut_141 ?_
                  refine lv_iload_n hx hb dX7_goesOut_144 rfl (lv_at hl 2 rfl) ?_
                  refine zld_MH (n := T.1 6 r 0) hx hb hK hG (by omega) rfl dX7_goesOut_145 ?_
                  refine zst_MH hx hb hK hG hS (by omega) dX7_goesOut_146 (fun H locs hG hS => ?_)
                  refine lv_aload_n hx hb dX7_goesOut_147 rfl (lv_at hl 0 rfl) ?_
                  refine zg_MO_challengers hx hb hts hinX7 hown hf38 hK hG dX7_goesOut_148 ?_
                  refine lv_iload_n hx hb dX7_goesOut_151 rfl (lv_at hl 2 rfl) ?_
                  refine lv_aload_n hx hb dX7_goesOut_152 rfl (lv_at hl 0 rfl) ?_
                  refine zg_MO_challengers hx hb hts hinX7 hown hf38 hK hG dX7_goesOut_153 ?_
                  refine lv_iload_n hx hb dX7_goesOut_156 rfl (lv_at hl 2 rfl) ?_
                  refine zld_MC (r := T.2 4 r 0) hx hb hK hG (by omega) rfl dX7_goesOut_157 ?_
                  refine lv_iload_n hx hb dX7_goesOut_158 rfl (lv_at hl 1 rfl) ?_
                  refine zb_ecmp_ne (tgt := 166) hx hb (T.2 4 r 0) (some p) hb4 (by rintro _ ⟨⟩; omega) dX7_goesOut_159 (by decide) (fun c_159 => ?_) (fun c_159 => ?_)
                  · refine lv_aload_n hx hb dX7_goesOut_166 rfl (lv_at hl 0 rfl) ?_
                    refine zg_MO_challengers hx hb hts hinX7 hown hf38 hK hG dX7_goesOut_167 ?_
                    refine lv_iload_n hx hb dX7_goesOut_170 rfl (lv_at hl 2 rfl) ?_
                    refine zld_MC (r := T.2 4 r 0) hx hb hK hG (by omega) rfl dX7_goesOut_171 ?_
                    refine zst_MC hx hb hK hG hS (by omega) dX7_goesOut_172 (fun H locs hG hS => ?_)
                    exact zm_vret hx hb hr hlocks hG hS (by omega) (by omega) (by first | (exact absurd c_159 c_133) | (exact absurd c_133 c_159) | (rw [← zs_go, if_pos c_107, if_pos c_133, if_pos c_133]; done) | (rw [← zs_go, if_pos c_107, if_neg c_133, if_neg c_133]; done) | (rw [← zs_go, if_neg c_107, if_pos c_133, if_pos c_133]; done) | (rw [← zs_go, if_neg c_107, if_neg c_133, if_neg c_133]; done)) dX7_goesOut_173
                  · refine zb_iconstm hx hb dX7_goesOut_162 ?_
                    refine zb_goto (tgt := 172) hx hb dX7_goesOut_163 (by decide) ?_
                    refine zst_MC hx hb hK hG hS (by omega) dX7_goesOut_172 (fun H locs hG hS => ?_)
                    exact zm_vret hx hb hr hlocks hG hS (by omega) (by omega) (by first | (exact absurd c_159 c_133) | (exact absurd c_133 c_159) | (rw [← zs_go, if_pos c_107, if_pos c_133, if_pos c_133]; done) | (rw [← zs_go, if_pos c_107, if_neg c_133, if_neg c_133]; done) | (rw [← zs_go, if_neg c_107, if_pos c_133, if_pos c_133]; done) | (rw [← zs_go, if_neg c_107, if_neg c_133, if_neg c_133]; done)) dX7_goesOut_173
                · refine zb_iconst (n := 0) hx hb dX7_goesOut_136 (by decide) ?_
                  refine zb_goto (tgt := 146) hx hb dX7_goesOut_137 (by decide) ?_
                  refine zst_MH hx hb hK hG hS (by omega) dX7_goesOut_146 (fun H locs hG hS => ?_)
                  refine lv_aload_n hx hb dX7_goesOut_147 rfl (lv_at hl 0 rfl) ?_
                  refine zg_MO_challengers hx hb hts hinX7 hown hf38 hK hG dX7_goesOut_148 ?_
                  refine lv_iload_n hx hb dX7_goesOut_151 rfl (lv_at hl 2 rfl) ?_
                  refine lv_aload_n hx hb dX7_goesOut_152 rfl (lv_at hl 0 rfl) ?_
                  refine zg_MO_challengers hx hb hts hinX7 hown hf38 hK hG dX7_goesOut_153 ?_
                  refine lv_iload_n hx hb dX7_goesOut_156 rfl (lv_at hl 2 rfl) ?_
                  refine zld_MC (r := T.2 4 r 0) hx hb hK hG (by omega) rfl dX7_goesOut_157 ?_
                  refine lv_iload_n hx hb dX7_goesOut_158 rfl (lv_at hl 1 rfl) ?_
                  refine zb_ecmp_ne (tgt := 166) hx hb (T.2 4 r 0) (some p) hb4 (by rintro _ ⟨⟩; omega) dX7_goesOut_159 (by decide) (fun c_159 => ?_) (fun c_159 => ?_)
                  · refine lv_aload_n hx hb dX7_goesOut_166 rfl (lv_at hl 0 rfl) ?_
                    refine zg_MO_challengers hx hb hts hinX7 hown hf38 hK hG dX7_goesOut_167 ?_
                    refine lv_iload_n hx hb dX7_goesOut_170 rfl (lv_at hl 2 rfl) ?_
                    refine zld_MC (r := T.2 4 r 0) hx hb hK hG (by omega) rfl dX7_goesOut_171 ?_
                    refine zst_MC hx hb hK hG hS (by omega) dX7_goesOut_172 (fun H locs hG hS => ?_)
                    exact zm_vret hx hb hr hlocks hG hS (by omega) (by omega) (by first | (exact absurd c_159 c_133) | (exact absurd c_133 c_159) | (rw [← zs_go, if_pos c_107, if_pos c_133, if_pos c_133]; done) | (rw [← zs_go, if_pos c_107, if_neg c_133, if_neg c_133]; done) | (rw [← zs_go, if_neg c_107, if_pos c_133, if_pos c_133]; done) | (rw [← zs_go, if_neg c_107, if_neg c_133, if_neg c_133]; done)) dX7_goesOut_173
                  · refine zb_iconstm hx hb dX7_goesOut_162 ?_
                    refine zb_goto (tgt := 172) hx hb dX7_goesOut_163 (by decide) ?_
                    refine zst_MC hx hb hK hG hS (by omega) dX7_goesOut_172 (fun H locs hG hS => ?_)
                    exact zm_vret hx hb hr hlocks hG hS (by omega) (by omega) (by first | (exact absurd c_159 c_133) | (exact absurd c_133 c_159) | (rw [← zs_go, if_pos c_107, if_pos c_133, if_pos c_133]; done) | (rw [← zs_go, if_pos c_107, if_neg c_133, if_neg c_133]; done) | (rw [← zs_go, if_neg c_107, if_pos c_133, if_pos c_133]; done) | (rw [← zs_go, if_neg c_107, if_neg c_133, if_neg c_133]; done)) dX7_goesOut_173
              · refine zb_iconstm hx hb dX7_goesOut_110 ?_
                refine zb_goto (tgt := 120) hx hb dX7_goesOut_111 (by decide) ?_
                refine zst_MK hx hb hK hG hS (by omega) dX7_goesOut_120 (fun H locs hG hS => ?_)
                refine lv_aload_n hx hb dX7_goesOut_121 rfl (lv_at hl 0 rfl) ?_
                refine zg_MO_challenges hx hb hts hinX7 hown hf41 hK hG dX7_goesOut_122 ?_
                refine lv_iload_n hx hb dX7_goesOut_125 rfl (lv_at hl 2 rfl) ?_
                refine lv_aload_n hx hb dX7_goesOut_126 rfl (lv_at hl 0 rfl) ?_
                refine zg_MO_challengers hx hb hts hinX7 hown hf38 hK hG dX7_goesOut_127 ?_
                refine lv_iload_n hx hb dX7_goesOut_130 rfl (lv_at hl 2 rfl) ?_
                refine zld_MC (r := T.2 4 r 0) hx hb hK hG (by omega) rfl dX7_goesOut_131 ?_
                refine lv_iload_n hx hb dX7_goesOut_132 rfl (lv_at hl 1 rfl) ?_
                refine zb_ecmp_ne (tgt := 140) hx hb (T.2 4 r 0) (some p) hb4 (by rintro _ ⟨⟩; omega) dX7_goesOut_133 (by decide) (fun c_133 => ?_) (fun c_133 => ?_)
                · refine lv_aload_n hx hb dX7_goesOut_140 rfl (lv_at hl 0 rfl) ?_
                  refine zg_MO_challenges hx hb hts hinX7 hown hf41 hK hG dX7_goesOut_141 ?_
                  refine lv_iload_n hx hb dX7_goesOut_144 rfl (lv_at hl 2 rfl) ?_
                  refine zld_MH (n := T.1 6 r 0) hx hb hK hG (by omega) rfl dX7_goesOut_145 ?_
                  refine zst_MH hx hb hK hG hS (by omega) dX7_goesOut_146 (fun H locs hG hS => ?_)
                  refine lv_aload_n hx hb dX7_goesOut_147 rfl (lv_at hl 0 rfl) ?_
                  refine zg_MO_challengers hx hb hts hinX7 hown hf38 hK hG dX7_goesOut_148 ?_
                  refine lv_iload_n hx hb dX7_goesOut_151 rfl (lv_at hl 2 rfl) ?_
                  refine lv_aload_n hx hb dX7_goesOut_152 rfl (lv_at hl 0 rfl) ?_
                  refine zg_MO_challengers hx hb hts hinX7 hown hf38 hK hG dX7_goesOut_153 ?_
                  refine lv_iload_n hx hb dX7_goesOut_156 rfl (lv_at hl 2 rfl) ?_
                  refine zld_MC (r := T.2 4 r 0) hx hb hK hG (by omega) rfl dX7_goesOut_157 ?_
                  refine lv_iload_n hx hb dX7_goesOut_158 rfl (lv_at hl 1 rfl) ?_
                  refine zb_ecmp_ne (tgt := 166) hx hb (T.2 4 r 0) (some p) hb4 (by rintro _ ⟨⟩; omega) dX7_goesOut_159 (by decide) (fun c_159 => ?_) (fun c_159 => ?_)
                  · refine lv_aload_n hx hb dX7_goesOut_166 rfl (lv_at hl 0 rfl) ?_
                    refine zg_MO_challengers hx hb hts hinX7 hown hf38 hK hG dX7_goesOut_167 ?_
                    refine lv_iload_n hx hb dX7_goesOut_170 rfl (lv_at hl 2 rfl) ?_
                    refine zld_MC (r := T.2 4 r 0) hx hb hK hG (by omega) rfl dX7_goesOut_171 ?_
                    refine zst_MC hx hb hK hG hS (by omega) dX7_goesOut_172 (fun H locs hG hS => ?_)
                    exact zm_vret hx hb hr hlocks hG hS (by omega) (by omega) (by first | (exact absurd c_159 c_133) | (exact absurd c_133 c_159) | (rw [← zs_go, if_pos c_107, if_pos c_133, if_pos c_133]; done) | (rw [← zs_go, if_pos c_107, if_neg c_133, if_neg c_133]; done) | (rw [← zs_go, if_neg c_107, if_pos c_133, if_pos c_133]; done) | (rw [← zs_go, if_neg c_107, if_neg c_133, if_neg c_133]; done)) dX7_goesOut_173
                  · refine zb_iconstm hx hb dX7_goesOut_162 ?_
                    refine zb_goto (tgt := 172) hx hb dX7_goesOut_163 (by decide) ?_
                    refine zst_MC hx hb hK hG hS (by omega) dX7_goesOut_172 (fun H locs hG hS => ?_)
                    exact zm_vret hx hb hr hlocks hG hS (by omega) (by omega) (by first | (exact absurd c_159 c_133) | (exact absurd c_133 c_159) | (rw [← zs_go, if_pos c_107, if_pos c_133, if_pos c_133]; done) | (rw [← zs_go, if_pos c_107, if_neg c_133, if_neg c_133]; done) | (rw [← zs_go, if_neg c_107, if_pos c_133, if_pos c_133]; done) | (rw [← zs_go, if_neg c_107, if_neg c_133, if_neg c_133]; done)) dX7_goesOut_173
                · refine zb_iconst (n := 0) hx hb dX7_goesOut_136 (by decide) ?_
                  refine zb_goto (tgt := 146) hx hb dX7_goesOut_137 (by decide) ?_
                  refine zst_MH hx hb hK hG hS (by omega) dX7_goesOut_146 (fun H locs hG hS => ?_)
                  refine lv_aload_n hx hb dX7_goesOut_147 rfl (lv_at hl 0 rfl) ?_
                  refine zg_MO_challengers hx hb hts hinX7 hown hf38 hK hG dX7_goesOut_148 ?_
                  refine lv_iload_n hx hb dX7_goesOut_151 rfl (lv_at hl 2 rfl) ?_
                  refine lv_aload_n hx hb dX7_goesOut_152 rfl (lv_at hl 0 rfl) ?_
                  refine zg_MO_challengers hx hb hts hinX7 hown hf38 hK hG dX7_goesOut_153 ?_
                  refine lv_iload_n hx hb dX7_goesOut_156 rfl (lv_at hl 2 rfl) ?_
                  refine zld_MC (r := T.2 4 r 0) hx hb hK hG (by omega) rfl dX7_goesOut_157 ?_
                  refine lv_iload_n hx hb dX7_goesOut_158 rfl (lv_at hl 1 rfl) ?_
                  refine zb_ecmp_ne (tgt := 166) hx hb (T.2 4 r 0) (some p) hb4 (by rintro _ ⟨⟩; omega) dX7_goesOut_159 (by decide) (fun c_159 => ?_) (fun c_159 => ?_)
                  · refine lv_aload_n hx hb dX7_goesOut_166 rfl (lv_at hl 0 rfl) ?_
                    refine zg_MO_challengers hx hb hts hinX7 hown hf38 hK hG dX7_goesOut_167 ?_
                    refine lv_iload_n hx hb dX7_goesOut_170 rfl (lv_at hl 2 rfl) ?_
                    refine zld_MC (r := T.2 4 r 0) hx hb hK hG (by omega) rfl dX7_goesOut_171 ?_
                    refine zst_MC hx hb hK hG hS (by omega) dX7_goesOut_172 (fun H locs hG hS => ?_)
                    exact zm_vret hx hb hr hlocks hG hS (by omega) (by omega) (by first | (exact absurd c_159 c_133) | (exact absurd c_133 c_159) | (rw [← zs_go, if_pos c_107, if_pos c_133, if_pos c_133]; done) | (rw [← zs_go, if_pos c_107, if_neg c_133, if_neg c_133]; done) | (rw [← zs_go, if_neg c_107, if_pos c_133, if_pos c_133]; done) | (rw [← zs_go, if_neg c_107, if_neg c_133, if_neg c_133]; done)) dX7_goesOut_173
                  · refine zb_iconstm hx hb dX7_goesOut_162 ?_
                    refine zb_goto (tgt := 172) hx hb dX7_goesOut_163 (by decide) ?_
                    refine zst_MC hx hb hK hG hS (by omega) dX7_goesOut_172 (fun H locs hG hS => ?_)
                    exact zm_vret hx hb hr hlocks hG hS (by omega) (by omega) (by first | (exact absurd c_159 c_133) | (exact absurd c_133 c_159) | (rw [← zs_go, if_pos c_107, if_pos c_133, if_pos c_133]; done) | (rw [← zs_go, if_pos c_107, if_neg c_133, if_neg c_133]; done) | (rw [← zs_go, if_neg c_107, if_pos c_133, if_pos c_133]; done) | (rw [← zs_go, if_neg c_107, if_neg c_133, if_neg c_133]; done)) dX7_goesOut_173
            · obtain ⟨y9, hy9, hy10⟩ := hoc (q + 1) (by omega)
              have hy8 : (zs_sh T r k q).2 2 r (q + 1) = some y9 := (if_neg (fun h => absurd h.2.2.2 (by omega))).trans hy9
              refine lv_aload_n hx hb dX7_goesOut_46 rfl (lv_at hl 0 rfl) ?_
              refine zg_MO_who hx hb hts hinX7 hown hf32 hK hG dX7_goesOut_47 ?_
              refine zb_bipush (n := 10) hx hb dX7_goesOut_50 (by decide) ?_
              refine lv_iload_n hx hb dX7_goesOut_52 rfl (lv_at hl 2 rfl) ?_
              refine zb_imul hx hb dX7_goesOut_53 ?_
              refine lv_iload hx hb dX7_goesOut_54 (lv_at hl 4 rfl) ?_
              refine zb_iadd hx hb dX7_goesOut_56 ?_
              refine lv_aload_n hx hb dX7_goesOut_57 rfl (lv_at hl 0 rfl) ?_
              refine zg_MO_who hx hb hts hinX7 hown hf32 hK hG dX7_goesOut_58 ?_
              refine zb_bipush (n := 10) hx hb dX7_goesOut_61 (by decide) ?_
              refine lv_iload_n hx hb dX7_goesOut_63 rfl (lv_at hl 2 rfl) ?_
              refine zb_imul hx hb dX7_goesOut_64 ?_
              refine lv_iload hx hb dX7_goesOut_65 (lv_at hl 4 rfl) ?_
              refine zb_iadd hx hb dX7_goesOut_67 ?_
              refine zb_iconst (n := 1) hx hb dX7_goesOut_68 (by decide) ?_
              refine zb_iadd hx hb dX7_goesOut_69 ?_
              refine zld_MW hx hb hK hG (by omega) (zs_wh (by omega) (by omega) hy8) dX7_goesOut_70 ?_
              refine zst_MW hx hb hK hG hS (r := r) (q := q) (by omega) (by omega) dX7_goesOut_71 (fun H locs hG hS => ?_)
              refine zb_iinc (n := 1) (k := 4) (lv' := [(4, .int (nI (q + 1))), (0, .ref (ad 14 0)), (1, .int (nI p)), (2, .int (nI r)), (3, .int (nI k))]) hx hb dX7_goesOut_72 hl rfl (by decide) (by decide) rfl (fun ls hl => ?_)
              refine zb_goto (tgt := 33) hx hb dX7_goesOut_75 (by decide) ?_
              exact ih33 (q + 1) (by omega) (by omega) (by omega) _ _ (by rw [← zs_sh_succ T hq, hy9]; exact hG) hS ls (lv_sub hl [1, 2, 3, 4, 0] rfl)
        exact loop33 (_ + 1) k (Nat.le_refl _) (by omega) (Nat.lt_succ_self _) _ _ (by rw [zs_sh_0]; exact hG) hS ls (lv_sub hl [1, 2, 3, 4, 0] rfl)
      · refine zb_iinc (n := 1) (k := 3) (lv' := [(3, .int (nI (i + 1))), (0, .ref (ad 14 0)), (1, .int (nI p)), (2, .int (nI r))]) hx hb dX7_goesOut_24 hl rfl (by decide) (by decide) rfl (fun ls hl => ?_)
        refine zb_goto (tgt := 9) hx hb dX7_goesOut_27 (by decide) ?_
        exact ih9 (i + 1) (by
              have h9 : i ≠ k := fun q => by subst q; rw [hk2] at hx9; exact c_21 (Option.some.inj hx9).symm
              omega) (by omega) _ _ hG hS ls (lv_sub hl [1, 2, 3, 0] rfl)
  exact loop9 (_ + 1) 0 (Nat.zero_le _) (Nat.lt_succ_self _) _ _ hG hS ls (lv_sub hl [2, 3, 1, 0] rfl)

set_option maxRecDepth 100000 in
set_option maxHeartbeats 4000000 in
theorem c_X7_endsPins (l : Launch) {E : za_E} {b : Nat} {ad : za_Ad} {S X T Y : za_S} {ow : Int64} {dw : UInt64}  (hc : T.1 0 0 0 ≤ 10) (hro : ∀ a x, T.2 0 a 0 = some x → a < T.1 0 0 0 → x < 2 ^ 31) (hpi : ∀ a q, a < T.1 0 0 0 → T.2 1 a 0 = some q → q < T.1 0 0 0) (hBT : zs_B T) : Met l yX7_endsPins wsX7_endsPins ({ frames := 0, cells := 0, slots := 0, locals := 0 } : Room) (za_Pc E b (ad, S, X, T, Y, ow, dw) [.ref (ad 14 0)]) (za_Qv E b (fun u => u = (ad, S, X, zs_st T 10, Y, ow, dw))) (0) (0) (za_A b) := by
  refine zm_met (ccm := cX7_endsPins) (maxL := 3) (ret := none) (ws' := _) (own := RX7) (lv := [(0, .ref (ad 14 0))]) (by decide) rfl rfl rfl (by simp [lg_sl, Value.category]) ?_
  intro pg en s m below meth c hx hb hml hr hown hts hlocks hK hZ hb0 hG hS ls hl
  have hf19 := hts (.fieldLink RX7 19 "VideoBridgeModel" "roomOf" "[I") (by decide +kernel)
  have hf22 := hts (.fieldLink RX7 22 "VideoBridgeModel" "pins" "[I") (by decide +kernel)
  have hf70 := hts (.fieldLink RX7 70 "VideoBridgeModel" "people" "I") (by decide +kernel)
  have hinX7 : ∀ w ∈ u_ws RX7 TX7 25, w ∈ wsX7_endsPins := by decide +kernel
  skip
  refine zb_iconst (n := 0) hx hb dX7_endsPins_0 (by decide) ?_
  refine lv_istore_n (lv' := [(1, .int (nI 0)), (0, .ref (ad 14 0))]) hx hb dX7_endsPins_1 rfl hl (by decide) rfl (fun ls hl => ?_)
  have loop2 : ∀ (N : Nat) (i : Nat), (i ≤ T.1 0 0 0) → T.1 0 0 0 - i < N → ∀ (H : Heap) (locs : List Loc), za_G E b (ad, S, X, (zs_st T i), Y, ow, dw) H → va_S (za_A b) s.heap H locs → ∀ ls : Array Slot, lv_has ls 3 [(0, .ref (ad 14 0)), (1, .int (nI i))] → W pg l en ({ frames := 0, cells := 0, slots := 0, locals := 0 } : Room) s m ([.ref (ad 14 0)] : List Value).toArray below meth c H locs (0) (0) (MQ below (za_Qv E b (fun u => u = (ad, S, X, zs_st T 10, Y, ow, dw))) ([.ref (ad 14 0)] : List Value).toArray s (0) (0) (za_A b)) (F0 m 2 ls []) := by
    intro N
    induction N with
    | zero => intro i hi2 hN; exact absurd hN (Nat.not_lt_zero _)
    | succ N ih2 =>
      intro i hi2 hN H locs hG hS ls hl
      refine lv_iload_n hx hb dX7_endsPins_2 rfl (lv_at hl 1 rfl) ?_
      refine lv_aload_n hx hb dX7_endsPins_3 rfl (lv_at hl 0 rfl) ?_
      refine zg_MO_people hx hb hts hinX7 hown hf70 hK hG (n := T.1 0 0 0) rfl dX7_endsPins_4 ?_
      refine zb_icmp_ge (x := i) (y := T.1 0 0 0) (tgt := 82) hx hb (by omega) (by have := hBT 0 0 0; omega) dX7_endsPins_7 (by decide) (fun c_7 => ?_) (fun c_7 => ?_)
      · obtain rfl : i = T.1 0 0 0 := by omega
        exact zm_vret hx hb hr hlocks hG hS (by omega) (by omega) (by rw [zs_st_all (Nat.le_refl _) hc]) dX7_endsPins_82
      · have hi : i < T.1 0 0 0 := c_7
        have ep : (zs_st T i).2 1 i 0 = T.2 1 i 0 := if_neg (fun z => absurd z.2.2.1 (Nat.lt_irrefl _))
        refine lv_aload_n hx hb dX7_endsPins_10 rfl (lv_at hl 0 rfl) ?_
        refine zg_MO_pins hx hb hts hinX7 hown hf22 hK hG dX7_endsPins_11 ?_
        refine lv_iload_n hx hb dX7_endsPins_14 rfl (lv_at hl 1 rfl) ?_
        refine zld_MP (r := T.2 1 i 0) hx hb hK hG (by omega) ep dX7_endsPins_15 ?_
        refine zb_iconstm hx hb dX7_endsPins_16 ?_
        refine zb_ecmp_eq (tgt := 54) hx hb (T.2 1 i 0) none (fun x h => by have := hpi i x hi h; omega) (by rintro _ ⟨⟩) dX7_endsPins_17 (by decide) (fun c_17 => ?_) (fun c_17 => ?_)
        · refine zb_iconst (n := 0) hx hb dX7_endsPins_54 (by decide) ?_
          refine lv_istore_n (lv' := [(2, .int (nI 0)), (0, .ref (ad 14 0)), (1, .int (nI i))]) hx hb dX7_endsPins_55 rfl hl (by decide) rfl (fun ls hl => ?_)
          refine lv_aload_n hx hb dX7_endsPins_56 rfl (lv_at hl 1 rfl) ?_
          refine zg_MO_pins hx hb hts hinX7 hown hf22 hK hG dX7_endsPins_57 ?_
          refine lv_iload_n hx hb dX7_endsPins_60 rfl (lv_at hl 2 rfl) ?_
          refine lv_iload_n hx hb dX7_endsPins_61 rfl (lv_at hl 0 rfl) ?_
          refine zb_if_eq (x := 0) (tgt := 69) hx hb (by decide) dX7_endsPins_62 (by decide) (fun _ => ?_) (fun c9 => absurd c9 (by decide))
          refine lv_aload_n hx hb dX7_endsPins_69 rfl (lv_at hl 1 rfl) ?_
          refine zg_MO_pins hx hb hts hinX7 hown hf22 hK hG dX7_endsPins_70 ?_
          refine lv_iload_n hx hb dX7_endsPins_73 rfl (lv_at hl 2 rfl) ?_
          refine zld_MP (r := T.2 1 i 0) hx hb hK hG (by omega) ep dX7_endsPins_74 ?_
          refine zst_MP hx hb hK hG hS (by omega) dX7_endsPins_75 (fun H locs hG hS => ?_)
          refine zb_iinc (n := 1) (k := 2) (lv' := [(1, .int (nI (i + 1))), (2, .int (nI 0)), (0, .ref (ad 14 0))]) hx hb dX7_endsPins_76 hl rfl (by decide) (by decide) rfl (fun ls hl => ?_)
          refine zb_goto (tgt := 2) hx hb dX7_endsPins_79 (by decide) ?_
          have e9 : (if zs_tg T (some i) (T.2 1 i 0) = false then none else T.2 1 i 0) = T.2 1 i 0 := by first | (rw [c_17]; rfl) | (rw [hq9]; refine if_neg ?_; intro z; exact of_decide_eq_false z ⟨c_27, c_47⟩) | (rw [hq9]; refine if_pos ?_; exact decide_eq_false (fun z => z.1 c_27)) | (rw [hq9]; refine if_pos ?_; exact decide_eq_false (fun z => c_47 z.2))
          exact ih2 (i + 1) (by omega) (by omega) _ _ (by rw [← zs_st_w T hi, e9]; exact hG) hS ls (lv_sub hl [2, 0] rfl)
        · obtain ⟨q9, hq9⟩ := Option.ne_none_iff_exists'.mp c_17
          have hq8 := hpi i q9 hi hq9
          refine lv_aload_n hx hb dX7_endsPins_20 rfl (lv_at hl 0 rfl) ?_
          refine zg_MO_roomOf hx hb hts hinX7 hown hf19 hK hG dX7_endsPins_21 ?_
          refine lv_iload_n hx hb dX7_endsPins_24 rfl (lv_at hl 1 rfl) ?_
          refine zld_MR (r := T.2 0 i 0) hx hb hK hG (by omega) rfl dX7_endsPins_25 ?_
          refine zb_iconstm hx hb dX7_endsPins_26 ?_
          refine zb_ecmp_eq (tgt := 50) hx hb (T.2 0 i 0) none (fun x h => hro i x h hi) (by rintro _ ⟨⟩) dX7_endsPins_27 (by decide) (fun c_27 => ?_) (fun c_27 => ?_)
          · refine zb_iconst (n := 1) hx hb dX7_endsPins_50 (by decide) ?_
            refine zb_goto (tgt := 55) hx hb dX7_endsPins_51 (by decide) ?_
            refine lv_istore_n (lv' := [(2, .int (nI 1)), (0, .ref (ad 14 0)), (1, .int (nI i))]) hx hb dX7_endsPins_55 rfl hl (by decide) rfl (fun ls hl => ?_)
            refine lv_aload_n hx hb dX7_endsPins_56 rfl (lv_at hl 1 rfl) ?_
            refine zg_MO_pins hx hb hts hinX7 hown hf22 hK hG dX7_endsPins_57 ?_
            refine lv_iload_n hx hb dX7_endsPins_60 rfl (lv_at hl 2 rfl) ?_
            refine lv_iload_n hx hb dX7_endsPins_61 rfl (lv_at hl 0 rfl) ?_
            refine zb_if_eq (x := 1) (tgt := 69) hx hb (by decide) dX7_endsPins_62 (by decide) (fun c9 => absurd c9 (by decide)) (fun _ => ?_)
            refine zb_iconstm hx hb dX7_endsPins_65 ?_
            refine zb_goto (tgt := 75) hx hb dX7_endsPins_66 (by decide) ?_
            refine zst_MP hx hb hK hG hS (by omega) dX7_endsPins_75 (fun H locs hG hS => ?_)
            refine zb_iinc (n := 1) (k := 2) (lv' := [(1, .int (nI (i + 1))), (2, .int (nI 1)), (0, .ref (ad 14 0))]) hx hb dX7_endsPins_76 hl rfl (by decide) (by decide) rfl (fun ls hl => ?_)
            refine zb_goto (tgt := 2) hx hb dX7_endsPins_79 (by decide) ?_
            have e9 : (if zs_tg T (some i) (T.2 1 i 0) = false then none else T.2 1 i 0) = none := by first | (rw [c_17]; rfl) | (rw [hq9]; refine if_neg ?_; intro z; exact of_decide_eq_false z ⟨c_27, c_47⟩) | (rw [hq9]; refine if_pos ?_; exact decide_eq_false (fun z => z.1 c_27)) | (rw [hq9]; refine if_pos ?_; exact decide_eq_false (fun z => c_47 z.2))
            exact ih2 (i + 1) (by omega) (by omega) _ _ (by rw [← zs_st_w T hi, e9]; exact hG) hS ls (lv_sub hl [2, 0] rfl)
          · refine lv_aload_n hx hb dX7_endsPins_30 rfl (lv_at hl 0 rfl) ?_
            refine zg_MO_roomOf hx hb hts hinX7 hown hf19 hK hG dX7_endsPins_31 ?_
            refine lv_iload_n hx hb dX7_endsPins_34 rfl (lv_at hl 1 rfl) ?_
            refine zld_MR (r := T.2 0 i 0) hx hb hK hG (by omega) rfl dX7_endsPins_35 ?_
            refine lv_aload_n hx hb dX7_endsPins_36 rfl (lv_at hl 0 rfl) ?_
            refine zg_MO_roomOf hx hb hts hinX7 hown hf19 hK hG dX7_endsPins_37 ?_
            refine lv_aload_n hx hb dX7_endsPins_40 rfl (lv_at hl 0 rfl) ?_
            refine zg_MO_pins hx hb hts hinX7 hown hf22 hK hG dX7_endsPins_41 ?_
            refine lv_iload_n hx hb dX7_endsPins_44 rfl (lv_at hl 1 rfl) ?_
            refine zld_MP (r := T.2 1 i 0) hx hb hK hG (by omega) ep dX7_endsPins_45 ?_
            refine W.eq (g2 := F0 m 46 ls [.int (nI q9), .ref (ad 18 0), .int (za_enc (T.2 0 i 0))]) (by rw [hq9]; rfl) ?_
            refine zld_MR (r := T.2 0 q9 0) hx hb hK hG (by omega) rfl dX7_endsPins_46 ?_
            refine zb_ecmp_eq (tgt := 54) hx hb (T.2 0 i 0) (T.2 0 q9 0) (fun x h => hro i x h hi) (fun x h => hro q9 x h hq8) dX7_endsPins_47 (by decide) (fun c_47 => ?_) (fun c_47 => ?_)
            · refine zb_iconst (n := 0) hx hb dX7_endsPins_54 (by decide) ?_
              refine lv_istore_n (lv' := [(2, .int (nI 0)), (0, .ref (ad 14 0)), (1, .int (nI i))]) hx hb dX7_endsPins_55 rfl hl (by decide) rfl (fun ls hl => ?_)
              refine lv_aload_n hx hb dX7_endsPins_56 rfl (lv_at hl 1 rfl) ?_
              refine zg_MO_pins hx hb hts hinX7 hown hf22 hK hG dX7_endsPins_57 ?_
              refine lv_iload_n hx hb dX7_endsPins_60 rfl (lv_at hl 2 rfl) ?_
              refine lv_iload_n hx hb dX7_endsPins_61 rfl (lv_at hl 0 rfl) ?_
              refine zb_if_eq (x := 0) (tgt := 69) hx hb (by decide) dX7_endsPins_62 (by decide) (fun _ => ?_) (fun c9 => absurd c9 (by decide))
              refine lv_aload_n hx hb dX7_endsPins_69 rfl (lv_at hl 1 rfl) ?_
              refine zg_MO_pins hx hb hts hinX7 hown hf22 hK hG dX7_endsPins_70 ?_
              refine lv_iload_n hx hb dX7_endsPins_73 rfl (lv_at hl 2 rfl) ?_
              refine zld_MP (r := T.2 1 i 0) hx hb hK hG (by omega) ep dX7_endsPins_74 ?_
              refine zst_MP hx hb hK hG hS (by omega) dX7_endsPins_75 (fun H locs hG hS => ?_)
              refine zb_iinc (n := 1) (k := 2) (lv' := [(1, .int (nI (i + 1))), (2, .int (nI 0)), (0, .ref (ad 14 0))]) hx hb dX7_endsPins_76 hl rfl (by decide) (by decide) rfl (fun ls hl => ?_)
              refine zb_goto (tgt := 2) hx hb dX7_endsPins_79 (by decide) ?_
              have e9 : (if zs_tg T (some i) (T.2 1 i 0) = false then none else T.2 1 i 0) = T.2 1 i 0 := by first | (rw [c_17]; rfl) | (rw [hq9]; refine if_neg ?_; intro z; exact of_decide_eq_false z ⟨c_27, c_47⟩) | (rw [hq9]; refine if_pos ?_; exact decide_eq_false (fun z => z.1 c_27)) | (rw [hq9]; refine if_pos ?_; exact decide_eq_false (fun z => c_47 z.2))
              exact ih2 (i + 1) (by omega) (by omega) _ _ (by rw [← zs_st_w T hi, e9]; exact hG) hS ls (lv_sub hl [2, 0] rfl)
            · refine zb_iconst (n := 1) hx hb dX7_endsPins_50 (by decide) ?_
              refine zb_goto (tgt := 55) hx hb dX7_endsPins_51 (by decide) ?_
              refine lv_istore_n (lv' := [(2, .int (nI 1)), (0, .ref (ad 14 0)), (1, .int (nI i))]) hx hb dX7_endsPins_55 rfl hl (by decide) rfl (fun ls hl => ?_)
              refine lv_aload_n hx hb dX7_endsPins_56 rfl (lv_at hl 1 rfl) ?_
              refine zg_MO_pins hx hb hts hinX7 hown hf22 hK hG dX7_endsPins_57 ?_
              refine lv_iload_n hx hb dX7_endsPins_60 rfl (lv_at hl 2 rfl) ?_
              refine lv_iload_n hx hb dX7_endsPins_61 rfl (lv_at hl 0 rfl) ?_
              refine zb_if_eq (x := 1) (tgt := 69) hx hb (by decide) dX7_endsPins_62 (by decide) (fun c9 => absurd c9 (by decide)) (fun _ => ?_)
              refine zb_iconstm hx hb dX7_endsPins_65 ?_
              refine zb_goto (tgt := 75) hx hb dX7_endsPins_66 (by decide) ?_
              refine zst_MP hx hb hK hG hS (by omega) dX7_endsPins_75 (fun H locs hG hS => ?_)
              refine zb_iinc (n := 1) (k := 2) (lv' := [(1, .int (nI (i + 1))), (2, .int (nI 1)), (0, .ref (ad 14 0))]) hx hb dX7_endsPins_76 hl rfl (by decide) (by decide) rfl (fun ls hl => ?_)
              refine zb_goto (tgt := 2) hx hb dX7_endsPins_79 (by decide) ?_
              have e9 : (if zs_tg T (some i) (T.2 1 i 0) = false then none else T.2 1 i 0) = none := by first | (rw [c_17]; rfl) | (rw [hq9]; refine if_neg ?_; intro z; exact of_decide_eq_false z ⟨c_27, c_47⟩) | (rw [hq9]; refine if_pos ?_; exact decide_eq_false (fun z => z.1 c_27)) | (rw [hq9]; refine if_pos ?_; exact decide_eq_false (fun z => c_47 z.2))
              exact ih2 (i + 1) (by omega) (by omega) _ _ (by rw [← zs_st_w T hi, e9]; exact hG) hS ls (lv_sub hl [2, 0] rfl)
  exact loop2 (_ + 1) 0 (Nat.zero_le _) (Nat.lt_succ_self _) _ _ (by rw [zs_st_0]; exact hG) hS ls (lv_sub hl [1, 0] rfl)

set_option maxRecDepth 100000 in
set_option maxHeartbeats 4000000 in
theorem c_X7_makesRoom (l : Launch) {E : za_E} {b : Nat} {ad : za_Ad} {S X T Y : za_S} {ow : Int64} {dw : UInt64}  (hr6 : T.1 0 1 0 < 6) : Met l yX7_makesRoom wsX7_makesRoom ({ frames := 0, cells := 0, slots := 0, locals := 0 } : Room) (za_Pc E b (ad, S, X, T, Y, ow, dw) [.ref (ad 14 0)]) (za_Qi E b (fun r u => r = nI (T.1 0 1 0) ∧ u = (ad, S, X, zs_nr T, Y, ow, dw))) (0) (0) (za_A b) := by
  refine zm_met (ccm := cX7_makesRoom) (maxL := 1) (ret := (some .int)) (ws' := _) (own := RX7) (lv := [(0, .ref (ad 14 0))]) (by decide) rfl rfl rfl (by simp [lg_sl, Value.category]) ?_
  intro pg en s m below meth c hx hb hml hr hown hts hlocks hK hZ hb0 hG hS ls hl
  have hf35 := hts (.fieldLink RX7 35 "VideoBridgeModel" "speakers" "[I") (by decide +kernel)
  have hf38 := hts (.fieldLink RX7 38 "VideoBridgeModel" "challengers" "[I") (by decide +kernel)
  have hf77 := hts (.fieldLink RX7 77 "VideoBridgeModel" "rooms" "I") (by decide +kernel)
  have hinX7 : ∀ w ∈ u_ws RX7 TX7 25, w ∈ wsX7_makesRoom := by decide +kernel
  skip
  refine lv_aload_n hx hb dX7_makesRoom_0 rfl (lv_at hl 0 rfl) ?_
  refine zg_MO_speakers hx hb hts hinX7 hown hf35 hK hG dX7_makesRoom_1 ?_
  refine lv_aload_n hx hb dX7_makesRoom_4 rfl (lv_at hl 0 rfl) ?_
  refine zg_MO_rooms hx hb hts hinX7 hown hf77 hK hG (n := T.1 0 1 0) rfl dX7_makesRoom_5 ?_
  refine zb_iconstm hx hb dX7_makesRoom_8 ?_
  refine zst_MK hx hb hK hG hS (by omega) dX7_makesRoom_9 (fun H locs hG hS => ?_)
  refine lv_aload_n hx hb dX7_makesRoom_10 rfl (lv_at hl 0 rfl) ?_
  refine zg_MO_challengers hx hb hts hinX7 hown hf38 hK hG dX7_makesRoom_11 ?_
  refine lv_aload_n hx hb dX7_makesRoom_14 rfl (lv_at hl 0 rfl) ?_
  refine zg_MO_rooms hx hb hts hinX7 hown hf77 hK hG (n := T.1 0 1 0) rfl dX7_makesRoom_15 ?_
  refine zb_iconstm hx hb dX7_makesRoom_18 ?_
  refine zst_MC hx hb hK hG hS (by omega) dX7_makesRoom_19 (fun H locs hG hS => ?_)
  refine lv_aload_n hx hb dX7_makesRoom_20 rfl (lv_at hl 0 rfl) ?_
  refine lv_dup hx hb dX7_makesRoom_21 rfl ?_
  refine zg_MO_rooms hx hb hts hinX7 hown hf77 hK hG (n := T.1 0 1 0) rfl dX7_makesRoom_22 ?_
  refine zb_iconst (n := 1) hx hb dX7_makesRoom_25 (by decide) ?_
  refine zb_iadd hx hb dX7_makesRoom_26 ?_
  refine zp_MO_rooms hx hb hts hinX7 hown hf77 hS hK hG dX7_makesRoom_27 (fun H locs hG hS => ?_)
  refine lv_aload_n hx hb dX7_makesRoom_30 rfl (lv_at hl 0 rfl) ?_
  refine zg_MO_rooms hx hb hts hinX7 hown hf77 hK hG (n := T.1 0 1 0 + 1) (by simp [za_N, za_P]) dX7_makesRoom_31 ?_
  refine zb_iconst (n := 1) hx hb dX7_makesRoom_34 (by decide) ?_
  refine zb_isub hx hb (by omega) dX7_makesRoom_35 ?_
  exact zm_iret hx hb hr hlocks hG hS (by omega) (by omega) ⟨by rw [Nat.add_sub_cancel], rfl⟩ dX7_makesRoom_36

set_option maxRecDepth 100000 in
set_option maxHeartbeats 4000000 in
theorem c_X7_candidateOf (l : Launch) {E : za_E} {b : Nat} {ad : za_Ad} {S X T Y : za_S} {ow : Int64} {dw : UInt64} (r : Nat) (hr6 : r < 6) (hsz : T.1 5 r 0 ≤ 10) (hoc : ∀ j, j < T.1 5 r 0 → ∃ x, T.2 2 r j = some x ∧ x < 10) (hBT : zs_B T) : Met l yX7_candidateOf wsX7_candidateOf ({ frames := 0, cells := 0, slots := 0, locals := 0 } : Room) (za_Pc E b (ad, S, X, T, Y, ow, dw) [.ref (ad 14 0), .int (nI r)]) (za_Qi E b (fun r9 u => r9 = za_enc (zs_cand T r) ∧ u = (ad, S, X, T, Y, ow, dw))) (0) (0) (za_A b) := by
  refine zm_met (ccm := cX7_candidateOf) (maxL := 5) (ret := (some .int)) (ws' := _) (own := RX7) (lv := [(0, .ref (ad 14 0)), (1, .int (nI r))]) (by decide) rfl rfl rfl (by simp [lg_sl, Value.category]) ?_
  intro pg en s m below meth c hx hb hml hr hown hts hlocks hK hZ hb0 hG hS ls hl
  have hf16 := hts (.fieldLink RX7 16 "VideoBridgeModel" "louds" "[I") (by decide +kernel)
  have hf29 := hts (.fieldLink RX7 29 "VideoBridgeModel" "sizes" "[I") (by decide +kernel)
  have hf32 := hts (.fieldLink RX7 32 "VideoBridgeModel" "who" "[I") (by decide +kernel)
  have hinX7 : ∀ w ∈ u_ws RX7 TX7 25, w ∈ wsX7_candidateOf := by decide +kernel
  skip
  refine zb_iconstm hx hb dX7_candidateOf_0 ?_
  refine lv_istore_n (lv' := [(2, .int (za_enc none)), (0, .ref (ad 14 0)), (1, .int (nI r))]) hx hb dX7_candidateOf_1 rfl hl (by decide) rfl (fun ls hl => ?_)
  refine zb_iconst (n := 0) hx hb dX7_candidateOf_2 (by decide) ?_
  refine lv_istore_n (lv' := [(3, .int (nI 0)), (2, .int (za_enc none)), (0, .ref (ad 14 0)), (1, .int (nI r))]) hx hb dX7_candidateOf_3 rfl hl (by decide) rfl (fun ls hl => ?_)
  have loop4 : ∀ (N : Nat) (b9 : Option Nat) (i : Nat), (i ≤ T.1 5 r 0) → (b9 = zs_cd T r i) → (∀ x, b9 = some x → x < 10) → T.1 5 r 0 - i < N → ∀ (H : Heap) (locs : List Loc), za_G E b (ad, S, X, T, Y, ow, dw) H → va_S (za_A b) s.heap H locs → ∀ ls : Array Slot, lv_has ls 5 [(0, .ref (ad 14 0)), (1, .int (nI r)), (2, .int (za_enc b9)), (3, .int (nI i))] → W pg l en ({ frames := 0, cells := 0, slots := 0, locals := 0 } : Room) s m ([.ref (ad 14 0), .int (nI r)] : List Value).toArray below meth c H locs (0) (0) (MQ below (za_Qi E b (fun r9 u => r9 = za_enc (zs_cand T r) ∧ u = (ad, S, X, T, Y, ow, dw))) ([.ref (ad 14 0), .int (nI r)] : List Value).toArray s (0) (0) (za_A b)) (F0 m 4 ls []) := by
    intro N
    induction N with
    | zero => intro b9 i hi hb9 hbv hN; exact absurd hN (Nat.not_lt_zero _)
    | succ N ih4 =>
      intro b9 i hi hb9 hbv hN H locs hG hS ls hl
      refine lv_iload_n hx hb dX7_candidateOf_4 rfl (lv_at hl 3 rfl) ?_
      refine lv_aload_n hx hb dX7_candidateOf_5 rfl (lv_at hl 0 rfl) ?_
      refine zg_MO_sizes hx hb hts hinX7 hown hf29 hK hG dX7_candidateOf_6 ?_
      refine lv_iload_n hx hb dX7_candidateOf_9 rfl (lv_at hl 1 rfl) ?_
      refine zld_MZ (n := T.1 5 r 0) hx hb hK hG (by omega) rfl dX7_candidateOf_10 ?_
      refine zb_icmp_ge (x := i) (y := T.1 5 r 0) (tgt := 73) hx hb (by omega) (by have := hBT 5 r 0; omega) dX7_candidateOf_11 (by decide) (fun c_11 => ?_) (fun c_11 => ?_)
      · obtain rfl : i = T.1 5 r 0 := by omega
        refine lv_iload_n hx hb dX7_candidateOf_73 rfl (lv_at hl 2 rfl) ?_
        exact zm_iret hx hb hr hlocks hG hS (by omega) (by omega) ⟨by rw [hb9, zs_cd_c], rfl⟩ dX7_candidateOf_74
      · obtain ⟨x9, hx9, hx10⟩ := hoc i (by omega)
        refine lv_aload_n hx hb dX7_candidateOf_14 rfl (lv_at hl 0 rfl) ?_
        refine zg_MO_who hx hb hts hinX7 hown hf32 hK hG dX7_candidateOf_15 ?_
        refine zb_bipush (n := 10) hx hb dX7_candidateOf_18 (by decide) ?_
        refine lv_iload_n hx hb dX7_candidateOf_20 rfl (lv_at hl 1 rfl) ?_
        refine zb_imul hx hb dX7_candidateOf_21 ?_
        refine lv_iload_n hx hb dX7_candidateOf_22 rfl (lv_at hl 3 rfl) ?_
        refine zb_iadd hx hb dX7_candidateOf_23 ?_
        refine zld_MW hx hb hK hG (by omega) (zs_wh rfl (by omega) hx9) dX7_candidateOf_24 ?_
        refine lv_istore (lv' := [(4, .int (nI x9)), (0, .ref (ad 14 0)), (1, .int (nI r)), (2, .int (za_enc b9)), (3, .int (nI i))]) hx hb dX7_candidateOf_25 hl (by decide) rfl (fun ls hl => ?_)
        refine lv_aload_n hx hb dX7_candidateOf_27 rfl (lv_at hl 1 rfl) ?_
        refine zg_MO_louds hx hb hts hinX7 hown hf16 hK hG dX7_candidateOf_28 ?_
        refine lv_iload hx hb dX7_candidateOf_31 (lv_at hl 0 rfl) ?_
        refine zld_ML (n := T.1 3 x9 0) hx hb hK hG (by omega) rfl dX7_candidateOf_33 ?_
        refine zb_bipush (n := 10) hx hb dX7_candidateOf_34 (by decide) ?_
        refine zb_icmp_lt (x := T.1 3 x9 0) (y := 10) (tgt := 65) hx hb (by have := hBT 3 x9 0; omega) (by omega) dX7_candidateOf_36 (by decide) (fun c_36 => ?_) (fun c_36 => ?_)
        · refine lv_iload_n hx hb dX7_candidateOf_65 rfl (lv_at hl 3 rfl) ?_
          refine lv_istore_n (lv' := [(2, .int (za_enc b9)), (4, .int (nI x9)), (0, .ref (ad 14 0)), (1, .int (nI r)), (3, .int (nI i))]) hx hb dX7_candidateOf_66 rfl hl (by decide) rfl (fun ls hl => ?_)
          refine zb_iinc (n := 1) (k := 4) (lv' := [(3, .int (nI (i + 1))), (2, .int (za_enc b9)), (4, .int (nI x9)), (0, .ref (ad 14 0)), (1, .int (nI r))]) hx hb dX7_candidateOf_67 hl rfl (by decide) (by decide) rfl (fun ls hl => ?_)
          refine zb_goto (tgt := 4) hx hb dX7_candidateOf_70 (by decide) ?_
          have e8 := zs_cd_s (S := T) (r := r) (n := i) hx9
          rw [← hb9] at e8
          have e9 : b9 = zs_cd T r (i + 1) := by rw [e8]; first | (refine (if_pos ⟨c_36, fun q z => ?_⟩).symm; rw [c_41] at z; cases z; done) | (refine (if_pos ⟨c_36, fun q z => ?_⟩).symm; rw [hy9] at z; cases z; exact c_57) | (refine (if_neg (fun z => ?_)).symm; have := z.1; omega) | (refine (if_neg (fun z => ?_)).symm; have := z.2 _ hy9; omega)
          exact ih4 b9 (i + 1) (by omega) e9 (by first | exact hbv | (rintro _ ⟨⟩; exact hx10)) (by omega) _ _ hG hS ls (lv_sub hl [3, 4, 1, 0] rfl)
        · refine lv_iload_n hx hb dX7_candidateOf_39 rfl (lv_at hl 3 rfl) ?_
          refine zb_iconstm hx hb dX7_candidateOf_40 ?_
          refine zb_ecmp_eq (tgt := 60) hx hb b9 none (fun x h => by have := hbv x h; omega) (by rintro _ ⟨⟩) dX7_candidateOf_41 (by decide) (fun c_41 => ?_) (fun c_41 => ?_)
          · refine lv_iload hx hb dX7_candidateOf_60 (lv_at hl 0 rfl) ?_
            refine zb_goto (tgt := 66) hx hb dX7_candidateOf_62 (by decide) ?_
            refine lv_istore_n (lv' := [(2, .int (nI x9)), (4, .int (nI x9)), (0, .ref (ad 14 0)), (1, .int (nI r)), (3, .int (nI i))]) hx hb dX7_candidateOf_66 rfl hl (by decide) rfl (fun ls hl => ?_)
            refine zb_iinc (n := 1) (k := 4) (lv' := [(3, .int (nI (i + 1))), (2, .int (nI x9)), (4, .int (nI x9)), (0, .ref (ad 14 0)), (1, .int (nI r))]) hx hb dX7_candidateOf_67 hl rfl (by decide) (by decide) rfl (fun ls hl => ?_)
            refine zb_goto (tgt := 4) hx hb dX7_candidateOf_70 (by decide) ?_
            have e8 := zs_cd_s (S := T) (r := r) (n := i) hx9
            rw [← hb9] at e8
            have e9 : (some x9) = zs_cd T r (i + 1) := by rw [e8]; first | (refine (if_pos ⟨c_36, fun q z => ?_⟩).symm; rw [c_41] at z; cases z; done) | (refine (if_pos ⟨c_36, fun q z => ?_⟩).symm; rw [hy9] at z; cases z; exact c_57) | (refine (if_neg (fun z => ?_)).symm; have := z.1; omega) | (refine (if_neg (fun z => ?_)).symm; have := z.2 _ hy9; omega)
            exact ih4 (some x9) (i + 1) (by omega) e9 (by first | exact hbv | (rintro _ ⟨⟩; exact hx10)) (by omega) _ _ hG hS ls (lv_sub hl [3, 4, 1, 0] rfl)
          · obtain ⟨y9, hy9⟩ := Option.ne_none_iff_exists'.mp c_41
            have hy10 := hbv y9 hy9
            refine lv_aload_n hx hb dX7_candidateOf_44 rfl (lv_at hl 1 rfl) ?_
            refine zg_MO_louds hx hb hts hinX7 hown hf16 hK hG dX7_candidateOf_45 ?_
            refine lv_iload hx hb dX7_candidateOf_48 (lv_at hl 0 rfl) ?_
            refine zld_ML (n := T.1 3 x9 0) hx hb hK hG (by omega) rfl dX7_candidateOf_50 ?_
            refine lv_aload_n hx hb dX7_candidateOf_51 rfl (lv_at hl 1 rfl) ?_
            refine zg_MO_louds hx hb hts hinX7 hown hf16 hK hG dX7_candidateOf_52 ?_
            refine lv_iload_n hx hb dX7_candidateOf_55 rfl (lv_at hl 3 rfl) ?_
            refine W.eq (g2 := F0 m 56 ls [.int (nI y9), .ref (ad 17 0), .int (nI (T.1 3 x9 0))]) (by rw [hy9]; rfl) ?_
            refine zld_ML (n := T.1 3 y9 0) hx hb hK hG (by omega) rfl dX7_candidateOf_56 ?_
            refine zb_icmp_le (x := T.1 3 x9 0) (y := T.1 3 y9 0) (tgt := 65) hx hb (by have := hBT 3 x9 0; omega) (by have := hBT 3 y9 0; omega) dX7_candidateOf_57 (by decide) (fun c_57 => ?_) (fun c_57 => ?_)
            · refine lv_iload_n hx hb dX7_candidateOf_65 rfl (lv_at hl 3 rfl) ?_
              refine lv_istore_n (lv' := [(2, .int (za_enc b9)), (4, .int (nI x9)), (0, .ref (ad 14 0)), (1, .int (nI r)), (3, .int (nI i))]) hx hb dX7_candidateOf_66 rfl hl (by decide) rfl (fun ls hl => ?_)
              refine zb_iinc (n := 1) (k := 4) (lv' := [(3, .int (nI (i + 1))), (2, .int (za_enc b9)), (4, .int (nI x9)), (0, .ref (ad 14 0)), (1, .int (nI r))]) hx hb dX7_candidateOf_67 hl rfl (by decide) (by decide) rfl (fun ls hl => ?_)
              refine zb_goto (tgt := 4) hx hb dX7_candidateOf_70 (by decide) ?_
              have e8 := zs_cd_s (S := T) (r := r) (n := i) hx9
              rw [← hb9] at e8
              have e9 : b9 = zs_cd T r (i + 1) := by rw [e8]; first | (refine (if_pos ⟨c_36, fun q z => ?_⟩).symm; rw [c_41] at z; cases z; done) | (refine (if_pos ⟨c_36, fun q z => ?_⟩).symm; rw [hy9] at z; cases z; exact c_57) | (refine (if_neg (fun z => ?_)).symm; have := z.1; omega) | (refine (if_neg (fun z => ?_)).symm; have := z.2 _ hy9; omega)
              exact ih4 b9 (i + 1) (by omega) e9 (by first | exact hbv | (rintro _ ⟨⟩; exact hx10)) (by omega) _ _ hG hS ls (lv_sub hl [3, 4, 1, 0] rfl)
            · refine lv_iload hx hb dX7_candidateOf_60 (lv_at hl 0 rfl) ?_
              refine zb_goto (tgt := 66) hx hb dX7_candidateOf_62 (by decide) ?_
              refine lv_istore_n (lv' := [(2, .int (nI x9)), (4, .int (nI x9)), (0, .ref (ad 14 0)), (1, .int (nI r)), (3, .int (nI i))]) hx hb dX7_candidateOf_66 rfl hl (by decide) rfl (fun ls hl => ?_)
              refine zb_iinc (n := 1) (k := 4) (lv' := [(3, .int (nI (i + 1))), (2, .int (nI x9)), (4, .int (nI x9)), (0, .ref (ad 14 0)), (1, .int (nI r))]) hx hb dX7_candidateOf_67 hl rfl (by decide) (by decide) rfl (fun ls hl => ?_)
              refine zb_goto (tgt := 4) hx hb dX7_candidateOf_70 (by decide) ?_
              have e8 := zs_cd_s (S := T) (r := r) (n := i) hx9
              rw [← hb9] at e8
              have e9 : (some x9) = zs_cd T r (i + 1) := by rw [e8]; first | (refine (if_pos ⟨c_36, fun q z => ?_⟩).symm; rw [c_41] at z; cases z; done) | (refine (if_pos ⟨c_36, fun q z => ?_⟩).symm; rw [hy9] at z; cases z; exact c_57) | (refine (if_neg (fun z => ?_)).symm; have := z.1; omega) | (refine (if_neg (fun z => ?_)).symm; have := z.2 _ hy9; omega)
              exact ih4 (some x9) (i + 1) (by omega) e9 (by first | exact hbv | (rintro _ ⟨⟩; exact hx10)) (by omega) _ _ hG hS ls (lv_sub hl [3, 4, 1, 0] rfl)
  exact loop4 (_ + 1) none 0 (Nat.zero_le _) rfl (by rintro _ ⟨⟩) (Nat.lt_succ_self _) _ _ hG hS ls (lv_sub hl [2, 3, 1, 0] rfl)

set_option maxRecDepth 100000 in
set_option maxHeartbeats 4000000 in
theorem c_X7_becomes (l : Launch) {E : za_E} {b : Nat} {ad : za_Ad} {S X T Y : za_S} {ow : Int64} {dw : UInt64} (r p : Nat) (hr6 : r < 6) (ht : T.1 7 8 0 < 12000) : Met l yX7_becomes wsX7_becomes ({ frames := 0, cells := 0, slots := 0, locals := 0 } : Room) (za_Pc E b (ad, S, X, T, Y, ow, dw) [.ref (ad 14 0), .int (nI r), .int (nI p)]) (za_Qv E b (fun u => u = (ad, S, X, zs_put (za_P T 3 r 0 (some p)) 8 (some (10 * r + p)), Y, ow, dw))) (0) (0) (za_A b) := by
  refine zm_met (ccm := cX7_becomes) (maxL := 3) (ret := none) (ws' := _) (own := RX7) (lv := [(0, .ref (ad 14 0)), (1, .int (nI r)), (2, .int (nI p))]) (by decide) rfl rfl rfl (by simp [lg_sl, Value.category]) ?_
  intro pg en s m below meth c hx hb hml hr hown hts hlocks hK hZ hb0 hG hS ls hl
  have hf109 := hts (.fieldLink RX7 109 "VideoBridgeModel" "turns" "I") (by decide +kernel)
  have hf35 := hts (.fieldLink RX7 35 "VideoBridgeModel" "speakers" "[I") (by decide +kernel)
  have hf44 := hts (.fieldLink RX7 44 "VideoBridgeModel" "turnAt" "[I") (by decide +kernel)
  have hinX7 : ∀ w ∈ u_ws RX7 TX7 25, w ∈ wsX7_becomes := by decide +kernel
  skip
  refine lv_aload_n hx hb dX7_becomes_0 rfl (lv_at hl 0 rfl) ?_
  refine zg_MO_speakers hx hb hts hinX7 hown hf35 hK hG dX7_becomes_1 ?_
  refine lv_iload_n hx hb dX7_becomes_4 rfl (lv_at hl 1 rfl) ?_
  refine lv_iload_n hx hb dX7_becomes_5 rfl (lv_at hl 2 rfl) ?_
  refine W.eq (g2 := F0 m 6 ls (.int (za_enc (some p)) :: [.int (nI r), .ref (ad 23 0)])) rfl ?_
  refine zst_MK hx hb hK hG hS (by omega) dX7_becomes_6 (fun H locs hG hS => ?_)
  refine lv_aload_n hx hb dX7_becomes_7 rfl (lv_at hl 0 rfl) ?_
  refine zg_MO_turnAt hx hb hts hinX7 hown hf44 hK hG dX7_becomes_8 ?_
  refine lv_aload_n hx hb dX7_becomes_11 rfl (lv_at hl 0 rfl) ?_
  refine zg_MO_turns hx hb hts hinX7 hown hf109 hK hG (n := T.1 7 8 0) rfl dX7_becomes_12 ?_
  refine zb_bipush (n := 10) hx hb dX7_becomes_15 (by decide) ?_
  refine lv_iload_n hx hb dX7_becomes_17 rfl (lv_at hl 1 rfl) ?_
  refine zb_imul hx hb dX7_becomes_18 ?_
  refine lv_iload_n hx hb dX7_becomes_19 rfl (lv_at hl 2 rfl) ?_
  refine zb_iadd hx hb dX7_becomes_20 ?_
  refine W.eq (g2 := F0 m 21 ls (.int (za_enc (some ((10 * r) + p))) :: [.int (nI (T.1 7 8 0)), .ref (ad 26 0)])) rfl ?_
  refine zst_MA hx hb hK hG hS (by omega) dX7_becomes_21 (fun H locs hG hS => ?_)
  refine lv_aload_n hx hb dX7_becomes_22 rfl (lv_at hl 0 rfl) ?_
  refine lv_dup hx hb dX7_becomes_23 rfl ?_
  refine zg_MO_turns hx hb hts hinX7 hown hf109 hK hG (n := T.1 7 8 0) rfl dX7_becomes_24 ?_
  refine zb_iconst (n := 1) hx hb dX7_becomes_27 (by decide) ?_
  refine zb_iadd hx hb dX7_becomes_28 ?_
  refine zp_MO_turns hx hb hts hinX7 hown hf109 hS hK hG dX7_becomes_29 (fun H locs hG hS => ?_)
  exact zm_vret hx hb hr hlocks hG hS (by omega) (by omega) rfl dX7_becomes_32
