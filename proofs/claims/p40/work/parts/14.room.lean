set_option maxRecDepth 100000 in
set_option maxHeartbeats 4000000 in
theorem c_X4_letIn (l : Launch) {E : za_E} {b : Nat} {ad : za_Ad} {S X T Y : za_S} {ow : Int64} {dw : UInt64} (r p : Nat) (hr9 : r < X.1 5 1 0) (hpv : p < X.1 5 0 0) (hsz : S.1 5 r 0 < 10) (hBX : zs_B X) (hBS : zs_B S) : Met l yX4_letIn wsX4_letIn ({ frames := 0, cells := 0, slots := 0, locals := 0 } : Room) (za_Pc E b (ad, S, X, T, Y, ow, dw) [.ref (ad 9 r), .ref (ad 8 p)]) (za_Qv E b (fun u => u = (ad, zs_in S r p, X, T, Y, ow, dw))) (0) (0) (za_A b) := by
  refine zm_met (ccm := cX4_letIn) (maxL := 2) (ret := none) (ws' := _) (own := RX4) (lv := [(0, .ref (ad 9 r)), (1, .ref (ad 8 p))]) (by decide) rfl rfl rfl (by simp [lg_sl, Value.category]) ?_
  intro pg en s m below meth c hx hb hml hr hown hts hlocks hK hZ hb0 hG hS ls hl
  have hf11 := hts (.fieldLink RX4 11 "VideoBridge$Room" "order" "[LVideoBridge$Person;") (by decide +kernel)
  have hf21 := hts (.fieldLink RX4 21 "VideoBridge$Room" "size" "I") (by decide +kernel)
  have hinX4 : ∀ w ∈ u_ws RX4 TX4 6, w ∈ wsX4_letIn := by decide +kernel
  skip
  refine lv_aload_n hx hb dX4_letIn_0 rfl (lv_at hl 0 rfl) ?_
  refine zg_RM_size hx hb hts hinX4 hown hf21 hK hG r hr9 (n := S.1 5 r 0) rfl dX4_letIn_1 ?_
  refine zb_if_lt (x := S.1 5 r 0) (tgt := 39) hx hb (by have := hBS 5 r 0; omega) dX4_letIn_4 (by decide) ?_
  refine lv_aload_n hx hb dX4_letIn_7 rfl (lv_at hl 0 rfl) ?_
  refine zg_RM_size hx hb hts hinX4 hown hf21 hK hG r hr9 (n := S.1 5 r 0) rfl dX4_letIn_8 ?_
  refine lv_aload_n hx hb dX4_letIn_11 rfl (lv_at hl 0 rfl) ?_
  refine zg_RM_order hx hb hts hinX4 hown hf11 hK hG r hr9 dX4_letIn_12 ?_
  refine zl_OR hx hb hK hG r hr9 dX4_letIn_15 ?_
  refine zb_icmp_ge (x := S.1 5 r 0) (y := 10) (tgt := 39) hx hb (by have := hBS 5 r 0; omega) (by omega) dX4_letIn_16 (by decide) (fun c_16 => ?_) (fun c_16 => ?_)
  · omega
  · refine lv_aload_n hx hb dX4_letIn_19 rfl (lv_at hl 0 rfl) ?_
    refine zg_RM_order hx hb hts hinX4 hown hf11 hK hG r hr9 dX4_letIn_20 ?_
    refine lv_aload_n hx hb dX4_letIn_23 rfl (lv_at hl 0 rfl) ?_
    refine zg_RM_size hx hb hts hinX4 hown hf21 hK hG r hr9 (n := S.1 5 r 0) rfl dX4_letIn_24 ?_
    refine lv_aload_n hx hb dX4_letIn_27 rfl (lv_at hl 1 rfl) ?_
    refine zst_OR hx hb hK hG r hr9 hS (by omega) hpv dX4_letIn_28 (fun H locs hG hS => ?_)
    refine lv_aload_n hx hb dX4_letIn_29 rfl (lv_at hl 0 rfl) ?_
    refine lv_dup hx hb dX4_letIn_30 rfl ?_
    refine zg_RM_size hx hb hts hinX4 hown hf21 hK hG r hr9 (n := S.1 5 r 0) rfl dX4_letIn_31 ?_
    refine zb_iconst (n := 1) hx hb dX4_letIn_34 (by decide) ?_
    refine zb_iadd hx hb dX4_letIn_35 ?_
    refine zp_RM_size hx hb hts hinX4 hown hf21 hS hK hG r hr9 dX4_letIn_36 (fun H locs hG hS => ?_)
    exact zm_vret hx hb hr hlocks hG hS (by omega) (by omega) rfl dX4_letIn_39

set_option maxRecDepth 100000 in
set_option maxHeartbeats 4000000 in
theorem c_X4_placeOf (l : Launch) {E : za_E} {b : Nat} {ad : za_Ad} {S X T Y : za_S} {ow : Int64} {dw : UInt64} (r p : Nat) (hr9 : r < X.1 5 1 0) (hpv : p < X.1 5 0 0) (hsz : S.1 5 r 0 ≤ 10) (hpe : ∀ i x, S.2 2 r i = some x → x < X.1 5 0 0) (hex : ∃ j, j < S.1 5 r 0 ∧ S.2 2 r j = some p) (hBX : zs_B X) (hBS : zs_B S) : Met l yX4_placeOf wsX4_placeOf ({ frames := 1, cells := 0, slots := 0, locals := 22 } : Room) (za_Pc E b (ad, S, X, T, Y, ow, dw) [.ref (ad 9 r), .ref (ad 8 p)]) (za_Qi E b (fun r9 u => ∃ k, r9 = nI k ∧ k < S.1 5 r 0 ∧ S.2 2 r k = some p ∧ (∀ j, j < k → S.2 2 r j ≠ some p) ∧ u = (ad, S, X, T, Y, ow, dw))) (0) (0) (za_A b) := by
  refine zm_met (ccm := cX4_placeOf) (maxL := 3) (ret := (some .int)) (ws' := _) (own := RX4) (lv := [(0, .ref (ad 9 r)), (1, .ref (ad 8 p))]) (by decide) rfl rfl rfl (by simp [lg_sl, Value.category]) ?_
  intro pg en s m below meth c hx hb hml hr hown hts hlocks hK hZ hb0 hG hS ls hl
  have hf21 := hts (.fieldLink RX4 21 "VideoBridge$Room" "size" "I") (by decide +kernel)
  have hinX4 : ∀ w ∈ u_ws RX4 TX4 6, w ∈ wsX4_placeOf := by decide +kernel
  skip
  refine zb_iconst (n := 0) hx hb dX4_placeOf_0 (by decide) ?_
  refine lv_istore_n (lv' := [(2, .int (nI 0)), (0, .ref (ad 9 r)), (1, .ref (ad 8 p))]) hx hb dX4_placeOf_1 rfl hl (by decide) rfl (fun ls hl => ?_)
  have loop2 : ∀ (N : Nat) (i : Nat), (i ≤ S.1 5 r 0) → (∀ j, j < i → S.2 2 r j ≠ some p) → S.1 5 r 0 - i < N → ∀ (H : Heap) (locs : List Loc), za_G E b (ad, S, X, T, Y, ow, dw) H → va_S (za_A b) s.heap H locs → ∀ ls : Array Slot, lv_has ls 3 [(0, .ref (ad 9 r)), (1, .ref (ad 8 p)), (2, .int (nI i))] → W pg l en ({ frames := 1, cells := 0, slots := 0, locals := 22 } : Room) s m ([.ref (ad 9 r), .ref (ad 8 p)] : List Value).toArray below meth c H locs (0) (0) (MQ below (za_Qi E b (fun r9 u => ∃ k, r9 = nI k ∧ k < S.1 5 r 0 ∧ S.2 2 r k = some p ∧ (∀ j, j < k → S.2 2 r j ≠ some p) ∧ u = (ad, S, X, T, Y, ow, dw))) ([.ref (ad 9 r), .ref (ad 8 p)] : List Value).toArray s (0) (0) (za_A b)) (F0 m 2 ls []) := by
    intro N
    induction N with
    | zero => intro i hi hno hN; exact absurd hN (Nat.not_lt_zero _)
    | succ N ih2 =>
      intro i hi hno hN H locs hG hS ls hl
      refine lv_iload_n hx hb dX4_placeOf_2 rfl (lv_at hl 2 rfl) ?_
      refine lv_aload_n hx hb dX4_placeOf_3 rfl (lv_at hl 0 rfl) ?_
      refine zg_RM_size hx hb hts hinX4 hown hf21 hK hG r hr9 (n := S.1 5 r 0) rfl dX4_placeOf_4 ?_
      refine zb_icmp_ge (x := i) (y := S.1 5 r 0) (tgt := 27) hx hb (by omega) (by have := hBS 5 r 0; omega) dX4_placeOf_7 (by decide) (fun c_7 => ?_) (fun c_7 => ?_)
      · obtain ⟨j, hj1, hj2⟩ := hex; exact absurd hj2 (hno j (by omega))
      · refine lv_aload_n hx hb dX4_placeOf_10 rfl (lv_at hl 0 rfl) ?_
        refine lv_iload_n hx hb dX4_placeOf_11 rfl (lv_at hl 2 rfl) ?_
        refine zc_Vq (κ := 8) (As := [.int (nI i)]) (rest := []) hK hZ hb0 hG hS hx hb hml hown hts (c_X4_at l r i hr9 (by omega) hBX hBS) (cwV 1 hts gX4_placeOf_X4_at rfl rfl rfl (by decide +kernel) ⟨Nat.le_of_ble_eq_true rfl, Nat.le_of_ble_eq_true rfl⟩) (za_recv (q := (RX4, TX4, 6)) hK hG 9 r (show r < X.1 5 1 0 from hr9) rfl rfl rfl) rfl hl rfl (Nat.le_of_ble_eq_true rfl) dX4_placeOf_12 ⟨Nat.le_of_ble_eq_true rfl, Nat.le_of_ble_eq_true rfl⟩ (fun r_12 u_12 H locs hp hG hS => ?_)
        obtain ⟨hq9, rfl⟩ := hp
        have hr2 : r_12 = S.2 2 r i := by rw [hq9]; exact if_pos ⟨by omega, by omega⟩
        subst hr2
        refine lv_aload_n hx hb dX4_placeOf_15 rfl (lv_at hl 1 rfl) ?_
        refine zb_acmp_ne (tgt := 21) hx hb hG 8 (by decide) (S.2 2 r i) (some p) (hpe i) (by rintro _ ⟨⟩; exact hpv) dX4_placeOf_16 (by decide) (fun c_16 => ?_) (fun c_16 => ?_)
        · refine zb_iinc (n := 1) (k := 2) (lv' := [(2, .int (nI (i + 1))), (0, .ref (ad 9 r)), (1, .ref (ad 8 p))]) hx hb dX4_placeOf_21 hl rfl (by decide) (by decide) rfl (fun ls hl => ?_)
          refine zb_goto (tgt := 2) hx hb dX4_placeOf_24 (by decide) ?_
          exact ih2 (i + 1) (by omega) (zs_lt_s (P := fun j => S.2 2 r j ≠ some p) hno c_16) (by omega) _ _ hG hS ls (lv_sub hl [1, 2, 0] rfl)
        · refine lv_iload_n hx hb dX4_placeOf_19 rfl (lv_at hl 2 rfl) ?_
          exact zm_iret hx hb hr hlocks hG hS (by omega) (by omega) ⟨i, rfl, c_7, c_16, hno, rfl⟩ dX4_placeOf_20
  exact loop2 (_ + 1) 0 (Nat.zero_le _) (fun j hj => absurd hj (Nat.not_lt_zero _)) (Nat.lt_succ_self _) _ _ hG hS ls (lv_sub hl [1, 2, 0] rfl)

set_option maxRecDepth 100000 in
set_option maxHeartbeats 4000000 in
theorem c_X4_endChallenge (l : Launch) {E : za_E} {b : Nat} {ad : za_Ad} {S X T Y : za_S} {ow : Int64} {dw : UInt64} (r : Nat) (hr9 : r < X.1 5 1 0) : Met l yX4_endChallenge wsX4_endChallenge ({ frames := 0, cells := 0, slots := 0, locals := 0 } : Room) (za_Pc E b (ad, S, X, T, Y, ow, dw) [.ref (ad 9 r)]) (za_Qv E b (fun u => u = (ad, zs_end S r, X, T, Y, ow, dw))) (0) (0) (za_A b) := by
  refine zm_met (ccm := cX4_endChallenge) (maxL := 1) (ret := none) (ws' := _) (own := RX4) (lv := [(0, .ref (ad 9 r))]) (by decide) rfl rfl rfl (by simp [lg_sl, Value.category]) ?_
  intro pg en s m below meth c hx hb hml hr hown hts hlocks hK hZ hb0 hG hS ls hl
  have hf32 := hts (.fieldLink RX4 32 "VideoBridge$Room" "challenger" "LVideoBridge$Person;") (by decide +kernel)
  have hf50 := hts (.fieldLink RX4 50 "VideoBridge$Room" "challengeTicks" "I") (by decide +kernel)
  have hinX4 : ∀ w ∈ u_ws RX4 TX4 6, w ∈ wsX4_endChallenge := by decide +kernel
  skip
  refine lv_aload_n hx hb dX4_endChallenge_0 rfl (lv_at hl 0 rfl) ?_
  refine lv_null hx hb dX4_endChallenge_1 ?_
  refine W.eq (g2 := F0 m 2 ls (za_o ad 8 none :: [.ref (ad 9 r)])) rfl ?_
  refine zp_RM_challenger hx hb hts hinX4 hown hf32 hS hK hG r hr9 none dX4_endChallenge_2 (fun H locs hG hS => ?_)
  refine lv_aload_n hx hb dX4_endChallenge_5 rfl (lv_at hl 0 rfl) ?_
  refine zb_iconst (n := 0) hx hb dX4_endChallenge_6 (by decide) ?_
  refine zp_RM_challengeTicks hx hb hts hinX4 hown hf50 hS hK hG r hr9 dX4_endChallenge_7 (fun H locs hG hS => ?_)
  exact zm_vret hx hb hr hlocks hG hS (by omega) (by omega) rfl dX4_endChallenge_10

set_option maxRecDepth 100000 in
set_option maxHeartbeats 4000000 in
theorem c_X4_letOut (l : Launch) {E : za_E} {b : Nat} {ad : za_Ad} {S X T Y : za_S} {ow : Int64} {dw : UInt64} (r p k : Nat) (hr9 : r < X.1 5 1 0) (hpv : p < X.1 5 0 0) (hsz : S.1 5 r 0 ≤ 10) (hpe : ∀ i x, S.2 2 r i = some x → x < X.1 5 0 0) (hocc : ∀ j, j < S.1 5 r 0 → ∃ x, S.2 2 r j = some x) (hspk : ∀ x, S.2 3 r 0 = some x → x < X.1 5 0 0) (hcha : ∀ x, S.2 4 r 0 = some x → x < X.1 5 0 0) (hk : k < S.1 5 r 0) (hk2 : S.2 2 r k = some p) (hk3 : ∀ j, j < k → S.2 2 r j ≠ some p) (hBX : zs_B X) (hBS : zs_B S) : Met l yX4_letOut wsX4_letOut ({ frames := 2, cells := 0, slots := 0, locals := 44 } : Room) (za_Pc E b (ad, S, X, T, Y, ow, dw) [.ref (ad 9 r), .ref (ad 8 p)]) (za_Qv E b (fun u => u = (ad, zs_out S r p k, X, T, Y, ow, dw))) (0) (0) (za_A b) := by
  refine zm_met (ccm := cX4_letOut) (maxL := 4) (ret := none) (ws' := _) (own := RX4) (lv := [(0, .ref (ad 9 r)), (1, .ref (ad 8 p))]) (by decide) rfl rfl rfl (by simp [lg_sl, Value.category]) ?_
  intro pg en s m below meth c hx hb hml hr hown hts hlocks hK hZ hb0 hG hS ls hl
  have hf11 := hts (.fieldLink RX4 11 "VideoBridge$Room" "order" "[LVideoBridge$Person;") (by decide +kernel)
  have hf21 := hts (.fieldLink RX4 21 "VideoBridge$Room" "size" "I") (by decide +kernel)
  have hf28 := hts (.fieldLink RX4 28 "VideoBridge$Room" "speaker" "LVideoBridge$Person;") (by decide +kernel)
  have hf32 := hts (.fieldLink RX4 32 "VideoBridge$Room" "challenger" "LVideoBridge$Person;") (by decide +kernel)
  have hinX4 : ∀ w ∈ u_ws RX4 TX4 6, w ∈ wsX4_letOut := by decide +kernel
  skip
  refine lv_aload_n hx hb dX4_letOut_0 rfl (lv_at hl 0 rfl) ?_
  refine lv_aload_n hx hb dX4_letOut_1 rfl (lv_at hl 1 rfl) ?_
  refine zc_Vi (As := [.ref (ad 8 p)]) (rest := []) hK hZ hb0 hG hS hx hb hml hown hts (c_X4_placeOf l r p hr9 hpv hsz hpe ⟨k, hk, hk2⟩ hBX hBS) (cwV 1 hts gX4_letOut_X4_placeOf rfl rfl rfl (by decide +kernel) ⟨Nat.le_of_ble_eq_true rfl, Nat.le_of_ble_eq_true rfl⟩) (za_recv (q := (RX4, TX4, 6)) hK hG 9 r (show r < X.1 5 1 0 from hr9) rfl rfl rfl) rfl hl rfl (Nat.le_of_ble_eq_true rfl) dX4_letOut_2 ⟨Nat.le_of_ble_eq_true rfl, Nat.le_of_ble_eq_true rfl⟩ (fun r_2 u_2 H locs hp hG hS => ?_)
  obtain ⟨k2, rfl, q1, q2, q3, rfl⟩ := hp
  obtain rfl : k = k2 := zs_first_one (g := S.2 2 r) hk2 hk3 q2 q3
  refine lv_istore_n (lv' := [(2, .int (nI k)), (0, .ref (ad 9 r)), (1, .ref (ad 8 p))]) hx hb dX4_letOut_5 rfl hl (by decide) rfl (fun ls hl => ?_)
  refine lv_iload_n hx hb dX4_letOut_6 rfl (lv_at hl 0 rfl) ?_
  refine zb_if_ge (x := k) (tgt := 11) hx hb (by omega) dX4_letOut_7 (by decide) ?_
  refine lv_iload_n hx hb dX4_letOut_11 rfl (lv_at hl 0 rfl) ?_
  refine lv_istore_n (lv' := [(3, .int (nI k)), (2, .int (nI k)), (0, .ref (ad 9 r)), (1, .ref (ad 8 p))]) hx hb dX4_letOut_12 rfl hl (by decide) rfl (fun ls hl => ?_)
  have loop13 : ∀ (N : Nat) (i : Nat), (k ≤ i) → (i ≤ S.1 5 r 0 - 1) → S.1 5 r 0 - i < N → ∀ (H : Heap) (locs : List Loc), za_G E b (ad, (zs_sh S r k i), X, T, Y, ow, dw) H → va_S (za_A b) s.heap H locs → ∀ ls : Array Slot, lv_has ls 4 [(0, .ref (ad 9 r)), (1, .ref (ad 8 p)), (2, .int (nI k)), (3, .int (nI i))] → W pg l en ({ frames := 2, cells := 0, slots := 0, locals := 44 } : Room) s m ([.ref (ad 9 r), .ref (ad 8 p)] : List Value).toArray below meth c H locs (0 + 0) (0 + 0) (MQ below (za_Qv E b (fun u => u = (ad, zs_out S r p k, X, T, Y, ow, dw))) ([.ref (ad 9 r), .ref (ad 8 p)] : List Value).toArray s (0) (0) (za_A b)) (F0 m 13 ls []) := by
    intro N
    induction N with
    | zero => intro i hi hi2 hN; exact absurd hN (Nat.not_lt_zero _)
    | succ N ih13 =>
      intro i hi hi2 hN H locs hG hS ls hl
      refine lv_iload_n hx hb dX4_letOut_13 rfl (lv_at hl 3 rfl) ?_
      refine zb_iconst (n := 1) hx hb dX4_letOut_14 (by decide) ?_
      refine zb_iadd hx hb dX4_letOut_15 ?_
      refine lv_aload_n hx hb dX4_letOut_16 rfl (lv_at hl 0 rfl) ?_
      refine zg_RM_size hx hb hts hinX4 hown hf21 hK hG r hr9 (n := S.1 5 r 0) rfl dX4_letOut_17 ?_
      refine zb_icmp_ge (x := i + 1) (y := S.1 5 r 0) (tgt := 54) hx hb (by omega) (by have := hBS 5 r 0; omega) dX4_letOut_20 (by decide) (fun c_20 => ?_) (fun c_20 => ?_)
      · obtain rfl : i = S.1 5 r 0 - 1 := by omega
        refine lv_aload_n hx hb dX4_letOut_54 rfl (lv_at hl 0 rfl) ?_
        refine lv_dup hx hb dX4_letOut_55 rfl ?_
        refine zg_RM_size hx hb hts hinX4 hown hf21 hK hG r hr9 (n := S.1 5 r 0) rfl dX4_letOut_56 ?_
        refine zb_iconst (n := 1) hx hb dX4_letOut_59 (by decide) ?_
        refine zb_isub hx hb (by omega) dX4_letOut_60 ?_
        refine zp_RM_size hx hb hts hinX4 hown hf21 hS hK hG r hr9 dX4_letOut_61 (fun H locs hG hS => ?_)
        refine lv_aload_n hx hb dX4_letOut_64 rfl (lv_at hl 0 rfl) ?_
        refine zg_RM_speaker hx hb hts hinX4 hown hf28 hK hG r hr9 (r := S.2 3 r 0) rfl dX4_letOut_65 ?_
        refine lv_aload_n hx hb dX4_letOut_68 rfl (lv_at hl 1 rfl) ?_
        refine zb_acmp_ne (tgt := 77) hx hb hG 8 (by decide) (S.2 3 r 0) (some p) hspk (by rintro _ ⟨⟩; exact hpv) dX4_letOut_69 (by decide) (fun c_69 => ?_) (fun c_69 => ?_)
        · refine lv_aload_n hx hb dX4_letOut_77 rfl (lv_at hl 0 rfl) ?_
          refine zg_RM_challenger hx hb hts hinX4 hown hf32 hK hG r hr9 (r := S.2 4 r 0) rfl dX4_letOut_78 ?_
          refine lv_aload_n hx hb dX4_letOut_81 rfl (lv_at hl 1 rfl) ?_
          refine zb_acmp_ne (tgt := 89) hx hb hG 8 (by decide) (S.2 4 r 0) (some p) hcha (by rintro _ ⟨⟩; exact hpv) dX4_letOut_82 (by decide) (fun c_82 => ?_) (fun c_82 => ?_)
          · exact zm_vret hx hb hr hlocks hG hS (by omega) (by omega) (by first | rw [zs_out_tt c_69 c_82] | rw [zs_out_tf c_69 c_82] | rw [zs_out_ft c_69 c_82] | rw [zs_out_ff c_69 c_82]) dX4_letOut_89
          · refine lv_aload_n hx hb dX4_letOut_85 rfl (lv_at hl 0 rfl) ?_
            refine zc_Vv (As := []) (rest := []) hK hZ hb0 hG hS hx hb hml hown hts (c_X4_endChallenge l r hr9) (cwV 0 hts gX4_letOut_X4_endChallenge rfl rfl rfl (by decide +kernel) ⟨Nat.le_of_ble_eq_true rfl, Nat.le_of_ble_eq_true rfl⟩) (za_recv (q := (RX4, TX4, 6)) hK hG 9 r (show r < X.1 5 1 0 from hr9) rfl rfl rfl) rfl hl rfl (Nat.le_of_ble_eq_true rfl) dX4_letOut_86 ⟨Nat.le_of_ble_eq_true rfl, Nat.le_of_ble_eq_true rfl⟩ (fun u_86 H locs hp hG hS => ?_)
            subst hp
            exact zm_vret hx hb hr hlocks hG hS (by omega) (by omega) (by first | rw [zs_out_tt c_69 c_82] | rw [zs_out_tf c_69 c_82] | rw [zs_out_ft c_69 c_82] | rw [zs_out_ff c_69 c_82]) dX4_letOut_89
        · refine lv_aload_n hx hb dX4_letOut_72 rfl (lv_at hl 0 rfl) ?_
          refine lv_null hx hb dX4_letOut_73 ?_
          refine W.eq (g2 := F0 m 74 ls (za_o ad 8 none :: [.ref (ad 9 r)])) rfl ?_
          refine zp_RM_speaker hx hb hts hinX4 hown hf28 hS hK hG r hr9 none dX4_letOut_74 (fun H locs hG hS => ?_)
          refine lv_aload_n hx hb dX4_letOut_77 rfl (lv_at hl 0 rfl) ?_
          refine zg_RM_challenger hx hb hts hinX4 hown hf32 hK hG r hr9 (r := S.2 4 r 0) rfl dX4_letOut_78 ?_
          refine lv_aload_n hx hb dX4_letOut_81 rfl (lv_at hl 1 rfl) ?_
          refine zb_acmp_ne (tgt := 89) hx hb hG 8 (by decide) (S.2 4 r 0) (some p) hcha (by rintro _ ⟨⟩; exact hpv) dX4_letOut_82 (by decide) (fun c_82 => ?_) (fun c_82 => ?_)
          · exact zm_vret hx hb hr hlocks hG hS (by omega) (by omega) (by first | rw [zs_out_tt c_69 c_82] | rw [zs_out_tf c_69 c_82] | rw [zs_out_ft c_69 c_82] | rw [zs_out_ff c_69 c_82]) dX4_letOut_89
          · refine lv_aload_n hx hb dX4_letOut_85 rfl (lv_at hl 0 rfl) ?_
            refine zc_Vv (As := []) (rest := []) hK hZ hb0 hG hS hx hb hml hown hts (c_X4_endChallenge l r hr9) (cwV 0 hts gX4_letOut_X4_endChallenge rfl rfl rfl (by decide +kernel) ⟨Nat.le_of_ble_eq_true rfl, Nat.le_of_ble_eq_true rfl⟩) (za_recv (q := (RX4, TX4, 6)) hK hG 9 r (show r < X.1 5 1 0 from hr9) rfl rfl rfl) rfl hl rfl (Nat.le_of_ble_eq_true rfl) dX4_letOut_86 ⟨Nat.le_of_ble_eq_true rfl, Nat.le_of_ble_eq_true rfl⟩ (fun u_86 H locs hp hG hS => ?_)
            subst hp
            exact zm_vret hx hb hr hlocks hG hS (by omega) (by omega) (by first | rw [zs_out_tt c_69 c_82] | rw [zs_out_tf c_69 c_82] | rw [zs_out_ft c_69 c_82] | rw [zs_out_ff c_69 c_82]) dX4_letOut_89
      · refine lv_iload_n hx hb dX4_letOut_23 rfl (lv_at hl 3 rfl) ?_
        refine zb_iconst (n := 1) hx hb dX4_letOut_24 (by decide) ?_
        refine zb_iadd hx hb dX4_letOut_25 ?_
        refine lv_aload_n hx hb dX4_letOut_26 rfl (lv_at hl 0 rfl) ?_
        refine zg_RM_order hx hb hts hinX4 hown hf11 hK hG r hr9 dX4_letOut_27 ?_
        refine zl_OR hx hb hK hG r hr9 dX4_letOut_30 ?_
        refine zb_icmp_ge (x := i + 1) (y := 10) (tgt := 54) hx hb (by omega) (by omega) dX4_letOut_31 (by decide) (fun c_31 => ?_) (fun c_31 => ?_)
        · omega
        · refine lv_aload_n hx hb dX4_letOut_34 rfl (lv_at hl 0 rfl) ?_
          refine zg_RM_order hx hb hts hinX4 hown hf11 hK hG r hr9 dX4_letOut_35 ?_
          refine lv_iload_n hx hb dX4_letOut_38 rfl (lv_at hl 3 rfl) ?_
          refine lv_aload_n hx hb dX4_letOut_39 rfl (lv_at hl 0 rfl) ?_
          refine zg_RM_order hx hb hts hinX4 hown hf11 hK hG r hr9 dX4_letOut_40 ?_
          refine lv_iload_n hx hb dX4_letOut_43 rfl (lv_at hl 3 rfl) ?_
          refine zb_iconst (n := 1) hx hb dX4_letOut_44 (by decide) ?_
          refine zb_iadd hx hb dX4_letOut_45 ?_
          refine zld_OR (r := S.2 2 r (i + 1)) hx hb hK hG r hr9 (by omega) (if_neg (fun h => absurd h.2.2.2 (by omega))) dX4_letOut_46 ?_
          obtain ⟨y, hy⟩ := hocc (i + 1) (by omega)
          rw [hy]
          refine zst_OR hx hb hK hG r hr9 hS (by omega) (hpe _ _ hy) dX4_letOut_47 (fun H locs hG hS => ?_)
          refine zb_iinc (n := 1) (k := 3) (lv' := [(3, .int (nI (i + 1))), (0, .ref (ad 9 r)), (1, .ref (ad 8 p)), (2, .int (nI k))]) hx hb dX4_letOut_48 hl rfl (by decide) (by decide) rfl (fun ls hl => ?_)
          refine zb_goto (tgt := 13) hx hb dX4_letOut_51 (by decide) ?_
          exact ih13 (i + 1) (by omega) (by omega) (by omega) _ _ (by rw [← zs_sh_succ S hi, hy]; exact hG) hS ls (lv_sub hl [1, 2, 3, 0] rfl)
  exact loop13 (_ + 1) k (Nat.le_refl _) (by omega) (Nat.lt_succ_self _) _ _ (by rw [zs_sh_0]; exact hG) hS ls (lv_sub hl [2, 3, 1, 0] rfl)

set_option maxRecDepth 100000 in
set_option maxHeartbeats 4000000 in
theorem c_X4_candidate (l : Launch) {E : za_E} {b : Nat} {ad : za_Ad} {S X T Y : za_S} {ow : Int64} {dw : UInt64} (r : Nat) (hr9 : r < X.1 5 1 0) (hsz : S.1 5 r 0 ≤ 10) (hpe : ∀ i x, S.2 2 r i = some x → x < X.1 5 0 0) (hBX : zs_B X) (hBS : zs_B S) : Met l yX4_candidate wsX4_candidate ({ frames := 1, cells := 0, slots := 0, locals := 22 } : Room) (za_Pc E b (ad, S, X, T, Y, ow, dw) [.ref (ad 9 r)]) (za_Qq E b 8 (fun r9 u => r9 = zs_cand S r ∧ u = (ad, S, X, T, Y, ow, dw))) (0) (0) (za_A b) := by
  refine zm_met (ccm := cX4_candidate) (maxL := 4) (ret := (some (.object "VideoBridge$Person"))) (ws' := _) (own := RX4) (lv := [(0, .ref (ad 9 r))]) (by decide) rfl rfl rfl (by simp [lg_sl, Value.category]) ?_
  intro pg en s m below meth c hx hb hml hr hown hts hlocks hK hZ hb0 hG hS ls hl
  have hf21 := hts (.fieldLink RX4 21 "VideoBridge$Room" "size" "I") (by decide +kernel)
  have hf53 := hts (.fieldLink RX4 53 "VideoBridge$Person" "loudness" "I") (by decide +kernel)
  have hinX2 : ∀ w ∈ u_ws RX2 TX2 8, w ∈ wsX4_candidate := by decide +kernel
  have hinX4 : ∀ w ∈ u_ws RX4 TX4 6, w ∈ wsX4_candidate := by decide +kernel
  skip
  refine lv_null hx hb dX4_candidate_0 ?_
  refine zb_ostore_n (ad := ad) (κ := 8) (r := none) (lv' := [(1, .null), (0, .ref (ad 9 r))]) hx hb dX4_candidate_1 rfl hl (by decide) rfl (fun ls hl => ?_)
  refine zb_iconst (n := 0) hx hb dX4_candidate_2 (by decide) ?_
  refine lv_istore_n (lv' := [(2, .int (nI 0)), (1, .null), (0, .ref (ad 9 r))]) hx hb dX4_candidate_3 rfl hl (by decide) rfl (fun ls hl => ?_)
  have loop4 : ∀ (N : Nat) (b9 : Option Nat) (i : Nat), (i ≤ S.1 5 r 0) → (b9 = zs_loud S r i) → (∀ x, b9 = some x → x < X.1 5 0 0) → S.1 5 r 0 - i < N → ∀ (H : Heap) (locs : List Loc), za_G E b (ad, S, X, T, Y, ow, dw) H → va_S (za_A b) s.heap H locs → ∀ ls : Array Slot, lv_has ls 4 [(0, .ref (ad 9 r)), (1, za_o ad 8 b9), (2, .int (nI i))] → W pg l en ({ frames := 1, cells := 0, slots := 0, locals := 22 } : Room) s m ([.ref (ad 9 r)] : List Value).toArray below meth c H locs (0) (0) (MQ below (za_Qq E b 8 (fun r9 u => r9 = zs_cand S r ∧ u = (ad, S, X, T, Y, ow, dw))) ([.ref (ad 9 r)] : List Value).toArray s (0) (0) (za_A b)) (F0 m 4 ls []) := by
    intro N
    induction N with
    | zero => intro b9 i hi hb9 hbv hN; exact absurd hN (Nat.not_lt_zero _)
    | succ N ih4 =>
      intro b9 i hi hb9 hbv hN H locs hG hS ls hl
      refine lv_iload_n hx hb dX4_candidate_4 rfl (lv_at hl 2 rfl) ?_
      refine lv_aload_n hx hb dX4_candidate_5 rfl (lv_at hl 0 rfl) ?_
      refine zg_RM_size hx hb hts hinX4 hown hf21 hK hG r hr9 (n := S.1 5 r 0) rfl dX4_candidate_6 ?_
      refine zb_icmp_ge (x := i) (y := S.1 5 r 0) (tgt := 45) hx hb (by omega) (by have := hBS 5 r 0; omega) dX4_candidate_9 (by decide) (fun c_9 => ?_) (fun c_9 => ?_)
      · refine zb_oload_n hx hb dX4_candidate_45 rfl (lv_at hl 1 rfl) ?_
        refine zb_ifnull (κ := 8) (r := b9) (tgt := 62) hx hb dX4_candidate_46 (by decide) (fun c_46 => ?_) (fun x_1 c_46 => ?_)
        · subst c_46
          refine lv_null hx hb dX4_candidate_62 ?_
          obtain rfl : i = S.1 5 r 0 := by omega
          exact zm_qret (r := none) hx hb hr hlocks hG hS (by omega) (by omega) ⟨by first | (simp [zs_cand, ← hb9]; done) | (simp only [zs_cand, ← hb9]; first | rw [if_neg (by omega)] | rw [if_pos (by omega)]), rfl⟩ dX4_candidate_63
        · subst c_46
          refine lv_aload_n hx hb dX4_candidate_49 rfl (lv_at hl 1 rfl) ?_
          refine zg_PE_loudness hx hb hts hinX2 hown hf53 hK hG x_1 (hbv _ rfl) (n := S.1 3 x_1 0) rfl dX4_candidate_50 ?_
          refine zb_bipush (n := 10) hx hb dX4_candidate_53 (by decide) ?_
          refine zb_icmp_lt (x := S.1 3 x_1 0) (y := 10) (tgt := 62) hx hb (by have := hBS 3 x_1 0; omega) (by omega) dX4_candidate_55 (by decide) (fun c_55 => ?_) (fun c_55 => ?_)
          · refine lv_null hx hb dX4_candidate_62 ?_
            obtain rfl : i = S.1 5 r 0 := by omega
            exact zm_qret (r := none) hx hb hr hlocks hG hS (by omega) (by omega) ⟨by first | (simp [zs_cand, ← hb9]; done) | (simp only [zs_cand, ← hb9]; first | rw [if_neg (by omega)] | rw [if_pos (by omega)]), rfl⟩ dX4_candidate_63
          · refine lv_aload_n hx hb dX4_candidate_58 rfl (lv_at hl 1 rfl) ?_
            refine zb_goto (tgt := 63) hx hb dX4_candidate_59 (by decide) ?_
            obtain rfl : i = S.1 5 r 0 := by omega
            exact zm_qret (r := some x_1) hx hb hr hlocks hG hS (by omega) (by omega) ⟨by first | (simp [zs_cand, ← hb9]; done) | (simp only [zs_cand, ← hb9]; first | rw [if_neg (by omega)] | rw [if_pos (by omega)]), rfl⟩ dX4_candidate_63
      · refine lv_aload_n hx hb dX4_candidate_12 rfl (lv_at hl 0 rfl) ?_
        refine lv_iload_n hx hb dX4_candidate_13 rfl (lv_at hl 2 rfl) ?_
        refine zc_Vq (κ := 8) (As := [.int (nI i)]) (rest := []) hK hZ hb0 hG hS hx hb hml hown hts (c_X4_at l r i hr9 (by omega) hBX hBS) (cwV 1 hts gX4_candidate_X4_at rfl rfl rfl (by decide +kernel) ⟨Nat.le_of_ble_eq_true rfl, Nat.le_of_ble_eq_true rfl⟩) (za_recv (q := (RX4, TX4, 6)) hK hG 9 r (show r < X.1 5 1 0 from hr9) rfl rfl rfl) rfl hl rfl (Nat.le_of_ble_eq_true rfl) dX4_candidate_14 ⟨Nat.le_of_ble_eq_true rfl, Nat.le_of_ble_eq_true rfl⟩ (fun r_14 u_14 H locs hp hG hS => ?_)
        obtain ⟨hq9, rfl⟩ := hp
        have hr2 : r_14 = S.2 2 r i := by rw [hq9]; exact if_pos ⟨by omega, by omega⟩
        subst hr2
        refine zb_ostore_n (ad := ad) (κ := 8) (r := S.2 2 r i) (lv' := [(3, za_o ad 8 (S.2 2 r i)), (0, .ref (ad 9 r)), (1, za_o ad 8 b9), (2, .int (nI i))]) hx hb dX4_candidate_17 rfl hl (by decide) rfl (fun ls hl => ?_)
        refine zb_oload_n hx hb dX4_candidate_18 rfl (lv_at hl 0 rfl) ?_
        refine zb_ifnull (κ := 8) (r := S.2 2 r i) (tgt := 39) hx hb dX4_candidate_19 (by decide) (fun c_19 => ?_) (fun x_2 c_19 => ?_)
        · rw [c_19] at hl
          refine zb_iinc (n := 1) (k := 3) (lv' := [(2, .int (nI (i + 1))), (3, .null), (0, .ref (ad 9 r)), (1, za_o ad 8 b9)]) hx hb dX4_candidate_39 hl rfl (by decide) (by decide) (by first | rfl | (simp [za_cat]; done) | (simp [za_cat]; rfl)) (fun ls hl => ?_)
          refine zb_goto (tgt := 4) hx hb dX4_candidate_42 (by decide) ?_
          exact ih4 b9 (i + 1) (by omega) (by first | (simp [zs_loud, c_19, ← hb9]; done) | (simp only [zs_loud, c_19, ← hb9]; first | rw [if_neg (by omega)] | rw [if_pos (by omega)])) (by first | exact hbv | (rintro _ ⟨⟩; exact hpe _ _ c_19)) (by omega) _ _ hG hS ls (lv_sub hl [2, 3, 0] rfl)
        · rw [c_19] at hl
          have hv_3 : ∀ z, S.2 2 r i = some z → z < X.1 5 0 0 := (hpe i)
          refine zb_oload_n hx hb dX4_candidate_22 rfl (lv_at hl 2 rfl) ?_
          refine zb_ifnull (κ := 8) (r := b9) (tgt := 37) hx hb dX4_candidate_23 (by decide) (fun c_23 => ?_) (fun x_4 c_23 => ?_)
          · subst c_23
            refine lv_aload_n hx hb dX4_candidate_37 rfl (lv_at hl 0 rfl) ?_
            refine lv_astore_n (lv' := [(1, .ref (ad 8 x_2)), (3, .ref (ad 8 x_2)), (0, .ref (ad 9 r)), (2, .int (nI i))]) hx hb dX4_candidate_38 rfl hl (by decide) rfl (fun ls hl => ?_)
            refine zb_iinc (n := 1) (k := 3) (lv' := [(2, .int (nI (i + 1))), (1, .ref (ad 8 x_2)), (3, .ref (ad 8 x_2)), (0, .ref (ad 9 r))]) hx hb dX4_candidate_39 hl rfl (by decide) (by decide) rfl (fun ls hl => ?_)
            refine zb_goto (tgt := 4) hx hb dX4_candidate_42 (by decide) ?_
            exact ih4 (some x_2) (i + 1) (by omega) (by first | (simp [zs_loud, c_19, ← hb9]; done) | (simp only [zs_loud, c_19, ← hb9]; first | rw [if_neg (by omega)] | rw [if_pos (by omega)])) (by first | exact hbv | (rintro _ ⟨⟩; exact hpe _ _ c_19)) (by omega) _ _ hG hS ls (lv_sub hl [3, 1, 0] rfl)
          · subst c_23
            refine lv_aload_n hx hb dX4_candidate_26 rfl (lv_at hl 0 rfl) ?_
            refine zg_PE_loudness hx hb hts hinX2 hown hf53 hK hG x_2 (hv_3 x_2 c_19) (n := S.1 3 x_2 0) rfl dX4_candidate_27 ?_
            refine lv_aload_n hx hb dX4_candidate_30 rfl (lv_at hl 2 rfl) ?_
            refine zg_PE_loudness hx hb hts hinX2 hown hf53 hK hG x_4 (hbv _ rfl) (n := S.1 3 x_4 0) rfl dX4_candidate_31 ?_
            refine zb_icmp_le (x := S.1 3 x_2 0) (y := S.1 3 x_4 0) (tgt := 39) hx hb (by have := hBS 3 x_2 0; omega) (by have := hBS 3 x_4 0; omega) dX4_candidate_34 (by decide) (fun c_34 => ?_) (fun c_34 => ?_)
            · refine zb_iinc (n := 1) (k := 3) (lv' := [(2, .int (nI (i + 1))), (3, .ref (ad 8 x_2)), (0, .ref (ad 9 r)), (1, .ref (ad 8 x_4))]) hx hb dX4_candidate_39 hl rfl (by decide) (by decide) rfl (fun ls hl => ?_)
              refine zb_goto (tgt := 4) hx hb dX4_candidate_42 (by decide) ?_
              exact ih4 (some x_4) (i + 1) (by omega) (by first | (simp [zs_loud, c_19, ← hb9]; done) | (simp only [zs_loud, c_19, ← hb9]; first | rw [if_neg (by omega)] | rw [if_pos (by omega)])) (by first | exact hbv | (rintro _ ⟨⟩; exact hpe _ _ c_19)) (by omega) _ _ hG hS ls (lv_sub hl [2, 3, 0] rfl)
            · refine lv_aload_n hx hb dX4_candidate_37 rfl (lv_at hl 0 rfl) ?_
              refine lv_astore_n (lv' := [(1, .ref (ad 8 x_2)), (3, .ref (ad 8 x_2)), (0, .ref (ad 9 r)), (2, .int (nI i))]) hx hb dX4_candidate_38 rfl hl (by decide) rfl (fun ls hl => ?_)
              refine zb_iinc (n := 1) (k := 3) (lv' := [(2, .int (nI (i + 1))), (1, .ref (ad 8 x_2)), (3, .ref (ad 8 x_2)), (0, .ref (ad 9 r))]) hx hb dX4_candidate_39 hl rfl (by decide) (by decide) rfl (fun ls hl => ?_)
              refine zb_goto (tgt := 4) hx hb dX4_candidate_42 (by decide) ?_
              exact ih4 (some x_2) (i + 1) (by omega) (by first | (simp [zs_loud, c_19, ← hb9]; done) | (simp only [zs_loud, c_19, ← hb9]; first | rw [if_neg (by omega)] | rw [if_pos (by omega)])) (by first | exact hbv | (rintro _ ⟨⟩; exact hpe _ _ c_19)) (by omega) _ _ hG hS ls (lv_sub hl [3, 1, 0] rfl)
  exact loop4 (_ + 1) none 0 (Nat.zero_le _) rfl (by rintro _ ⟨⟩) (Nat.lt_succ_self _) _ _ hG hS ls (lv_sub hl [2, 1, 0] rfl)

set_option maxRecDepth 100000 in
set_option maxHeartbeats 4000000 in
theorem c_X4_isLouderThanSpeaker (l : Launch) {E : za_E} {b : Nat} {ad : za_Ad} {S X T Y : za_S} {ow : Int64} {dw : UInt64} (r : Nat) (q : Option Nat) (hr9 : r < X.1 5 1 0) (hq : ∀ x, q = some x → x < X.1 5 0 0) (hspk : ∀ x, S.2 3 r 0 = some x → x < X.1 5 0 0) (hBX : zs_B X) (hBS : zs_B S) : Met l yX4_isLouderThanSpeaker wsX4_isLouderThanSpeaker ({ frames := 0, cells := 0, slots := 0, locals := 0 } : Room) (za_Pc E b (ad, S, X, T, Y, ow, dw) [.ref (ad 9 r), za_o ad 8 q]) (za_Qi E b (fun r9 u => r9 = nI (if zs_lt S r q = true then 1 else 0) ∧ u = (ad, S, X, T, Y, ow, dw))) (0) (0) (za_A b) := by
  refine zm_met (ccm := cX4_isLouderThanSpeaker) (maxL := 2) (ret := (some .boolean)) (ws' := _) (own := RX4) (lv := [(0, .ref (ad 9 r)), (1, za_o ad 8 q)]) (by decide) rfl rfl (by simp [lv_args, za_cat, za_catr, za_cati]) (by simp [lg_sl, za_cat, za_catr, za_cati]) ?_
  intro pg en s m below meth c hx hb hml hr hown hts hlocks hK hZ hb0 hG hS ls hl
  have hf28 := hts (.fieldLink RX4 28 "VideoBridge$Room" "speaker" "LVideoBridge$Person;") (by decide +kernel)
  have hf53 := hts (.fieldLink RX4 53 "VideoBridge$Person" "loudness" "I") (by decide +kernel)
  have hinX2 : ∀ w ∈ u_ws RX2 TX2 8, w ∈ wsX4_isLouderThanSpeaker := by decide +kernel
  have hinX4 : ∀ w ∈ u_ws RX4 TX4 6, w ∈ wsX4_isLouderThanSpeaker := by decide +kernel
  skip
  refine zb_oload_n hx hb dX4_isLouderThanSpeaker_0 rfl (lv_at hl 1 rfl) ?_
  refine zb_ifnull (κ := 8) (r := q) (tgt := 31) hx hb dX4_isLouderThanSpeaker_1 (by decide) (fun c_1 => ?_) (fun x_1 c_1 => ?_)
  · subst c_1
    refine zb_iconst (n := 0) hx hb dX4_isLouderThanSpeaker_31 (by decide) ?_
    exact zm_zret hx hb hr rfl hlocks hG hS (by omega) (by omega) ⟨by first | (simp [zs_lt]; done) | (simp [zs_lt, c_8]; done) | (simp only [zs_lt, c_8]; rw [if_pos (decide_eq_true (by omega))]) | (simp only [zs_lt, c_8]; rw [if_neg (by rw [decide_eq_true_eq]; omega)]), rfl⟩ dX4_isLouderThanSpeaker_32
  · subst c_1
    refine lv_aload_n hx hb dX4_isLouderThanSpeaker_4 rfl (lv_at hl 0 rfl) ?_
    refine zg_RM_speaker hx hb hts hinX4 hown hf28 hK hG r hr9 (r := S.2 3 r 0) rfl dX4_isLouderThanSpeaker_5 ?_
    refine zb_ifnull (κ := 8) (r := S.2 3 r 0) (tgt := 31) hx hb dX4_isLouderThanSpeaker_8 (by decide) (fun c_8 => ?_) (fun x_2 c_8 => ?_)
    · refine zb_iconst (n := 0) hx hb dX4_isLouderThanSpeaker_31 (by decide) ?_
      exact zm_zret hx hb hr rfl hlocks hG hS (by omega) (by omega) ⟨by first | (simp [zs_lt]; done) | (simp [zs_lt, c_8]; done) | (simp only [zs_lt, c_8]; rw [if_pos (decide_eq_true (by omega))]) | (simp only [zs_lt, c_8]; rw [if_neg (by rw [decide_eq_true_eq]; omega)]), rfl⟩ dX4_isLouderThanSpeaker_32
    · have hv_3 : ∀ z, S.2 3 r 0 = some z → z < X.1 5 0 0 := hspk
      refine lv_aload_n hx hb dX4_isLouderThanSpeaker_11 rfl (lv_at hl 1 rfl) ?_
      refine zg_PE_loudness hx hb hts hinX2 hown hf53 hK hG x_1 (hq _ rfl) (n := S.1 3 x_1 0) rfl dX4_isLouderThanSpeaker_12 ?_
      refine lv_aload_n hx hb dX4_isLouderThanSpeaker_15 rfl (lv_at hl 0 rfl) ?_
      refine zg_RM_speaker hx hb hts hinX4 hown hf28 hK hG r hr9 (r := some x_2) c_8 dX4_isLouderThanSpeaker_16 ?_
      refine zg_PE_loudness hx hb hts hinX2 hown hf53 hK hG x_2 (hv_3 x_2 c_8) (n := S.1 3 x_2 0) rfl dX4_isLouderThanSpeaker_19 ?_
      refine zb_iconst (n := 5) hx hb dX4_isLouderThanSpeaker_22 (by decide) ?_
      refine zb_iadd hx hb dX4_isLouderThanSpeaker_23 ?_
      refine zb_icmp_lt (x := S.1 3 x_1 0) (y := (S.1 3 x_2 0) + 5) (tgt := 31) hx hb (by have := hBS 3 x_1 0; omega) (by have := hBS 3 x_2 0; omega) dX4_isLouderThanSpeaker_24 (by decide) (fun c_24 => ?_) (fun c_24 => ?_)
      · refine zb_iconst (n := 0) hx hb dX4_isLouderThanSpeaker_31 (by decide) ?_
        exact zm_zret hx hb hr rfl hlocks hG hS (by omega) (by omega) ⟨by first | (simp [zs_lt]; done) | (simp [zs_lt, c_8]; done) | (simp only [zs_lt, c_8]; rw [if_pos (decide_eq_true (by omega))]) | (simp only [zs_lt, c_8]; rw [if_neg (by rw [decide_eq_true_eq]; omega)]), rfl⟩ dX4_isLouderThanSpeaker_32
      · refine zb_iconst (n := 1) hx hb dX4_isLouderThanSpeaker_27 (by decide) ?_
        refine zb_goto (tgt := 32) hx hb dX4_isLouderThanSpeaker_28 (by decide) ?_
        exact zm_zret hx hb hr rfl hlocks hG hS (by omega) (by omega) ⟨by first | (simp [zs_lt]; done) | (simp [zs_lt, c_8]; done) | (simp only [zs_lt, c_8]; rw [if_pos (decide_eq_true (by omega))]) | (simp only [zs_lt, c_8]; rw [if_neg (by rw [decide_eq_true_eq]; omega)]), rfl⟩ dX4_isLouderThanSpeaker_32

set_option maxRecDepth 100000 in
set_option maxHeartbeats 4000000 in
theorem c_X4_passTick (l : Launch) {E : za_E} {b : Nat} {ad : za_Ad} {S X T Y : za_S} {ow : Int64} {dw : UInt64} (r : Nat) (hr9 : r < X.1 5 1 0) (hsz : S.1 5 r 0 ≤ 10) (hpe : ∀ i x, S.2 2 r i = some x → x < X.1 5 0 0) (hspk : ∀ x, S.2 3 r 0 = some x → x < X.1 5 0 0) (hcha : ∀ x, S.2 4 r 0 = some x → x < X.1 5 0 0) (hBX : zs_B X) (hBS : zs_B S) : Met l yX4_passTick wsX4_passTick ({ frames := 2, cells := 0, slots := 0, locals := 45 } : Room) (za_Pc E b (ad, S, X, T, Y, ow, dw) [.ref (ad 9 r)]) (za_Qi E b (fun r9 u => r9 = nI (if (zs_pt S r).2 = true then 1 else 0) ∧ u = (ad, (zs_pt S r).1, X, T, Y, ow, dw))) (0) (0) (za_A b) := by
  refine zm_met (ccm := cX4_passTick) (maxL := 2) (ret := (some .boolean)) (ws' := _) (own := RX4) (lv := [(0, .ref (ad 9 r))]) (by decide) rfl rfl rfl (by simp [lg_sl, Value.category]) ?_
  intro pg en s m below meth c hx hb hml hr hown hts hlocks hK hZ hb0 hG hS ls hl
  have hf28 := hts (.fieldLink RX4 28 "VideoBridge$Room" "speaker" "LVideoBridge$Person;") (by decide +kernel)
  have hf32 := hts (.fieldLink RX4 32 "VideoBridge$Room" "challenger" "LVideoBridge$Person;") (by decide +kernel)
  have hf50 := hts (.fieldLink RX4 50 "VideoBridge$Room" "challengeTicks" "I") (by decide +kernel)
  have hinX4 : ∀ w ∈ u_ws RX4 TX4 6, w ∈ wsX4_passTick := by decide +kernel
  skip
  refine lv_aload_n hx hb dX4_passTick_0 rfl (lv_at hl 0 rfl) ?_
  refine zc_Vq (κ := 8) (As := []) (rest := []) hK hZ hb0 hG hS hx hb hml hown hts (c_X4_candidate l r hr9 hsz hpe hBX hBS) (cwV 0 hts gX4_passTick_X4_candidate rfl rfl rfl (by decide +kernel) ⟨Nat.le_of_ble_eq_true rfl, Nat.le_of_ble_eq_true rfl⟩) (za_recv (q := (RX4, TX4, 6)) hK hG 9 r (show r < X.1 5 1 0 from hr9) rfl rfl rfl) rfl hl rfl (Nat.le_of_ble_eq_true rfl) dX4_passTick_1 ⟨Nat.le_of_ble_eq_true rfl, Nat.le_of_ble_eq_true rfl⟩ (fun r_1 u_1 H locs hp hG hS => ?_)
  obtain ⟨rfl, rfl⟩ := hp
  refine zb_ostore_n (ad := ad) (κ := 8) (r := zs_cand S r) (lv' := [(1, za_o ad 8 (zs_cand S r)), (0, .ref (ad 9 r))]) hx hb dX4_passTick_4 rfl hl (by decide) rfl (fun ls hl => ?_)
  refine lv_aload_n hx hb dX4_passTick_5 rfl (lv_at hl 1 rfl) ?_
  refine zg_RM_speaker hx hb hts hinX4 hown hf28 hK hG r hr9 (r := S.2 3 r 0) rfl dX4_passTick_6 ?_
  refine zb_ifnonnull (κ := 8) (r := S.2 3 r 0) (tgt := 31) hx hb dX4_passTick_9 (by decide) (fun x_1 c_9 => ?_) (fun c_9 => ?_)
  · have hv_2 : ∀ z, S.2 3 r 0 = some z → z < X.1 5 0 0 := hspk
    refine lv_aload_n hx hb dX4_passTick_31 rfl (lv_at hl 1 rfl) ?_
    refine zb_oload_n hx hb dX4_passTick_32 rfl (lv_at hl 0 rfl) ?_
    refine zc_Vi (As := [za_o ad 8 (zs_cand S r)]) (rest := []) hK hZ hb0 hG hS hx hb hml hown hts (c_X4_isLouderThanSpeaker l r (zs_cand S r) hr9 (fun x hx => zs_cand_v hpe x hx) hspk hBX hBS) (cwV 1 hts gX4_passTick_X4_isLouderThanSpeaker rfl rfl rfl (by decide +kernel) ⟨Nat.le_of_ble_eq_true rfl, Nat.le_of_ble_eq_true rfl⟩) (za_recv (q := (RX4, TX4, 6)) hK hG 9 r (show r < X.1 5 1 0 from hr9) rfl rfl rfl) rfl hl rfl (Nat.le_of_ble_eq_true rfl) dX4_passTick_33 ⟨Nat.le_of_ble_eq_true rfl, Nat.le_of_ble_eq_true rfl⟩ (fun r_33 u_33 H locs hp hG hS => ?_)
    obtain ⟨rfl, rfl⟩ := hp
    have hbl := zs_bl (zs_lt S r (zs_cand S r))
    have hne9 : S.2 3 r 0 ≠ none := by rw [c_9]; exact fun h => by cases h
    have hch := zs_chn_le r hBS
    refine zb_if_ne (x := if zs_lt S r (zs_cand S r) = true then 1 else 0) (tgt := 45) hx hb (by omega) dX4_passTick_36 (by decide) (fun c_36 => ?_) (fun c_36 => ?_)
    · have cut64 : W pg l en ({ frames := 2, cells := 0, slots := 0, locals := 45 } : Room) s m ([.ref (ad 9 r)] : List Value).toArray below meth c H locs (0 + 0 + 0) (0 + 0 + 0) (MQ below (za_Qi E b (fun r9 u => r9 = nI (if (zs_pt S r).2 = true then 1 else 0) ∧ u = (ad, (zs_pt S r).1, X, T, Y, ow, dw))) ([.ref (ad 9 r)] : List Value).toArray s (0) (0) (za_A b)) (F0 m 64 ls [.int (nI (zs_chn S r)), .ref (ad 9 r)]) := by
        refine zp_RM_challengeTicks hx hb hts hinX4 hown hf50 hS hK hG r hr9 dX4_passTick_64 (fun H locs hG hS => ?_)
        refine lv_aload_n hx hb dX4_passTick_67 rfl (lv_at hl 1 rfl) ?_
        refine zb_oload_n hx hb dX4_passTick_68 rfl (lv_at hl 0 rfl) ?_
        refine zp_RM_challenger hx hb hts hinX4 hown hf32 hS hK hG r hr9 (zs_cand S r) dX4_passTick_69 (fun H locs hG hS => ?_)
        refine lv_aload_n hx hb dX4_passTick_72 rfl (lv_at hl 1 rfl) ?_
        refine zg_RM_challengeTicks hx hb hts hinX4 hown hf50 hK hG r hr9 (n := zs_chn S r) (by simp [za_N, za_P]) dX4_passTick_73 ?_
        refine zb_iconst (n := 3) hx hb dX4_passTick_76 (by decide) ?_
        refine zb_icmp_ge (x := zs_chn S r) (y := 3) (tgt := 82) hx hb (by omega) (by omega) dX4_passTick_77 (by decide) (fun c_77 => ?_) (fun c_77 => ?_)
        · refine lv_aload_n hx hb dX4_passTick_82 rfl (lv_at hl 1 rfl) ?_
          refine zb_oload_n hx hb dX4_passTick_83 rfl (lv_at hl 0 rfl) ?_
          refine zp_RM_speaker hx hb hts hinX4 hown hf28 hS hK hG r hr9 (zs_cand S r) dX4_passTick_84 (fun H locs hG hS => ?_)
          refine lv_aload_n hx hb dX4_passTick_87 rfl (lv_at hl 1 rfl) ?_
          refine zc_Vv (As := []) (rest := []) hK hZ hb0 hG hS hx hb hml hown hts (c_X4_endChallenge l r hr9) (cwV 0 hts gX4_passTick_X4_endChallenge rfl rfl rfl (by decide +kernel) ⟨Nat.le_of_ble_eq_true rfl, Nat.le_of_ble_eq_true rfl⟩) (za_recv (q := (RX4, TX4, 6)) hK hG 9 r (show r < X.1 5 1 0 from hr9) rfl rfl rfl) rfl hl rfl (Nat.le_of_ble_eq_true rfl) dX4_passTick_88 ⟨Nat.le_of_ble_eq_true rfl, Nat.le_of_ble_eq_true rfl⟩ (fun u_88 H locs hp hG hS => ?_)
          subst hp
          refine zb_iconst (n := 1) hx hb dX4_passTick_91 (by decide) ?_
          exact zm_zret hx hb hr rfl hlocks hG hS (by omega) (by omega) ⟨by rw [zs_pt_2 hne9 (zs_b1 c_36) (Nat.not_lt.mpr c_77)]; rfl, by rw [zs_pt_2 hne9 (zs_b1 c_36) (Nat.not_lt.mpr c_77)]⟩ dX4_passTick_92
        · refine zb_iconst (n := 0) hx hb dX4_passTick_80 (by decide) ?_
          exact zm_zret hx hb hr rfl hlocks hG hS (by omega) (by omega) ⟨by rw [zs_pt_1 hne9 (zs_b1 c_36) c_77]; rfl, by rw [zs_pt_1 hne9 (zs_b1 c_36) c_77]⟩ dX4_passTick_81
      refine lv_aload_n hx hb dX4_passTick_45 rfl (lv_at hl 1 rfl) ?_
      refine zb_oload_n hx hb dX4_passTick_46 rfl (lv_at hl 0 rfl) ?_
      refine lv_aload_n hx hb dX4_passTick_47 rfl (lv_at hl 1 rfl) ?_
      refine zg_RM_challenger hx hb hts hinX4 hown hf32 hK hG r hr9 (r := S.2 4 r 0) rfl dX4_passTick_48 ?_
      refine zb_acmp_ne (tgt := 63) hx hb hG 8 (by decide) (zs_cand S r) (S.2 4 r 0) (zs_cand_v hpe) hcha dX4_passTick_51 (by decide) (fun c_51 => ?_) (fun c_51 => ?_)
      · refine zb_iconst (n := 1) hx hb dX4_passTick_63 (by decide) ?_
        have e64 : 1 = zs_chn S r := by rw [zs_chn, if_neg c_51]
        refine W.eq (congrArg (fun z => F0 m 64 ls [.int (nI z), .ref (ad 9 r)]) e64) ?_
        exact cut64
      · refine lv_aload_n hx hb dX4_passTick_54 rfl (lv_at hl 1 rfl) ?_
        refine zg_RM_challengeTicks hx hb hts hinX4 hown hf50 hK hG r hr9 (n := S.1 6 r 0) rfl dX4_passTick_55 ?_
        refine zb_iconst (n := 1) hx hb dX4_passTick_58 (by decide) ?_
        refine zb_iadd hx hb dX4_passTick_59 ?_
        refine zb_goto (tgt := 64) hx hb dX4_passTick_60 (by decide) ?_
        have e64 : S.1 6 r 0 + 1 = zs_chn S r := by rw [zs_chn, if_pos c_51]
        refine W.eq (congrArg (fun z => F0 m 64 ls [.int (nI z), .ref (ad 9 r)]) e64) ?_
        exact cut64
    · refine lv_aload_n hx hb dX4_passTick_39 rfl (lv_at hl 1 rfl) ?_
      refine zc_Vv (As := []) (rest := []) hK hZ hb0 hG hS hx hb hml hown hts (c_X4_endChallenge l r hr9) (cwV 0 hts gX4_passTick_X4_endChallenge rfl rfl rfl (by decide +kernel) ⟨Nat.le_of_ble_eq_true rfl, Nat.le_of_ble_eq_true rfl⟩) (za_recv (q := (RX4, TX4, 6)) hK hG 9 r (show r < X.1 5 1 0 from hr9) rfl rfl rfl) rfl hl rfl (Nat.le_of_ble_eq_true rfl) dX4_passTick_40 ⟨Nat.le_of_ble_eq_true rfl, Nat.le_of_ble_eq_true rfl⟩ (fun u_40 H locs hp hG hS => ?_)
      subst hp
      refine zb_iconst (n := 0) hx hb dX4_passTick_43 (by decide) ?_
      exact zm_zret hx hb hr rfl hlocks hG hS (by omega) (by omega) ⟨by rw [zs_pt_0 hne9 (zs_b0 c_36)]; rfl, by rw [zs_pt_0 hne9 (zs_b0 c_36)]⟩ dX4_passTick_44
  · refine lv_aload_n hx hb dX4_passTick_12 rfl (lv_at hl 1 rfl) ?_
    refine zc_Vv (As := []) (rest := []) hK hZ hb0 hG hS hx hb hml hown hts (c_X4_endChallenge l r hr9) (cwV 0 hts gX4_passTick_X4_endChallenge rfl rfl rfl (by decide +kernel) ⟨Nat.le_of_ble_eq_true rfl, Nat.le_of_ble_eq_true rfl⟩) (za_recv (q := (RX4, TX4, 6)) hK hG 9 r (show r < X.1 5 1 0 from hr9) rfl rfl rfl) rfl hl rfl (Nat.le_of_ble_eq_true rfl) dX4_passTick_13 ⟨Nat.le_of_ble_eq_true rfl, Nat.le_of_ble_eq_true rfl⟩ (fun u_13 H locs hp hG hS => ?_)
    subst hp
    refine lv_aload_n hx hb dX4_passTick_16 rfl (lv_at hl 1 rfl) ?_
    refine zb_oload_n hx hb dX4_passTick_17 rfl (lv_at hl 0 rfl) ?_
    refine zp_RM_speaker hx hb hts hinX4 hown hf28 hS hK hG r hr9 (zs_cand S r) dX4_passTick_18 (fun H locs hG hS => ?_)
    refine zb_oload_n hx hb dX4_passTick_21 rfl (lv_at hl 0 rfl) ?_
    refine zb_ifnull (κ := 8) (r := zs_cand S r) (tgt := 29) hx hb dX4_passTick_22 (by decide) (fun c_22 => ?_) (fun x_3 c_22 => ?_)
    · rw [c_22] at hl
      refine zb_iconst (n := 0) hx hb dX4_passTick_29 (by decide) ?_
      exact zm_zret hx hb hr rfl hlocks hG hS (by omega) (by omega) ⟨by rw [zs_pt_n c_9, c_22]; rfl, by rw [zs_pt_n c_9]⟩ dX4_passTick_30
    · rw [c_22] at hl
      have hv_4 : ∀ z, zs_cand S r = some z → z < X.1 5 0 0 := (zs_cand_v hpe)
      refine zb_iconst (n := 1) hx hb dX4_passTick_25 (by decide) ?_
      refine zb_goto (tgt := 30) hx hb dX4_passTick_26 (by decide) ?_
      exact zm_zret hx hb hr rfl hlocks hG hS (by omega) (by omega) ⟨by rw [zs_pt_n c_9, c_22]; rfl, by rw [zs_pt_n c_9]⟩ dX4_passTick_30
