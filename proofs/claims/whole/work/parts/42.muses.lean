set_option maxRecDepth 100000 in
set_option maxHeartbeats 4000000 in
theorem c_X7_need (l : Launch) {E : za_E} {b : Nat} {ad : za_Ad} {S X T Y : za_S} {ow : Int64} {dw : UInt64} (n : Nat) (hn : n ≤ 3) : Met l yX7_need wsX7_need ({ frames := 0, cells := 0, slots := 0, locals := 0 } : Room) (za_Pc E b (ad, S, X, T, Y, ow, dw) [.int (nI n)]) (za_Qi E b (fun r u => r = nI (zs_need n) ∧ u = (ad, S, X, T, Y, ow, dw))) (0) (0) (za_A b) := by
  refine zm_met (ccm := cX7_need) (maxL := 1) (ret := (some .int)) (ws' := _) (own := RX7) (lv := [(0, .int (nI n))]) (by decide) rfl rfl rfl (by simp [lg_sl, Value.category]) ?_
  intro pg en s m below meth c hx hb hml hr hown hts hlocks hK hZ hb0 hG hS ls hl
  skip
  refine lv_iload_n hx hb dX7_need_0 rfl (lv_at hl 0 rfl) ?_
  refine zb_if_ne (x := n) (tgt := 8) hx hb (by omega) dX7_need_1 (by decide) (fun c_1 => ?_) (fun c_1 => ?_)
  · refine lv_iload_n hx hb dX7_need_8 rfl (lv_at hl 0 rfl) ?_
    refine zb_iconst (n := 1) hx hb dX7_need_9 (by decide) ?_
    refine zb_icmp_ne (x := n) (y := 1) (tgt := 18) hx hb (by omega) (by omega) dX7_need_10 (by decide) (fun c_10 => ?_) (fun c_10 => ?_)
    · refine lv_iload_n hx hb dX7_need_18 rfl (lv_at hl 0 rfl) ?_
      refine zb_iconst (n := 2) hx hb dX7_need_19 (by decide) ?_
      refine zb_icmp_ne (x := n) (y := 2) (tgt := 29) hx hb (by omega) (by omega) dX7_need_20 (by decide) (fun c_20 => ?_) (fun c_20 => ?_)
      · refine zb_sipush (n := 1600) hx hb dX7_need_29 (by decide) ?_
        exact zm_iret hx hb hr hlocks hG hS (by omega) (by omega) ⟨by have e : n = 3 := (by omega); subst e; rfl, rfl⟩ dX7_need_32
      · refine zb_sipush (n := 400) hx hb dX7_need_23 (by decide) ?_
        refine zb_goto (tgt := 32) hx hb dX7_need_26 (by decide) ?_
        exact zm_iret hx hb hr hlocks hG hS (by omega) (by omega) ⟨by have e : n = 2 := (by omega); subst e; rfl, rfl⟩ dX7_need_32
    · refine zb_bipush (n := 100) hx hb dX7_need_13 (by decide) ?_
      refine zb_goto (tgt := 32) hx hb dX7_need_15 (by decide) ?_
      exact zm_iret hx hb hr hlocks hG hS (by omega) (by omega) ⟨by have e : n = 1 := (by omega); subst e; rfl, rfl⟩ dX7_need_32
  · refine zb_iconst (n := 0) hx hb dX7_need_4 (by decide) ?_
    refine zb_goto (tgt := 32) hx hb dX7_need_5 (by decide) ?_
    exact zm_iret hx hb hr hlocks hG hS (by omega) (by omega) ⟨by have e : n = 0 := (by omega); subst e; rfl, rfl⟩ dX7_need_32

set_option maxRecDepth 100000 in
set_option maxHeartbeats 4000000 in
theorem c_X7_takes (l : Launch) {E : za_E} {b : Nat} {ad : za_Ad} {S X T Y : za_S} {ow : Int64} {dw : UInt64} (p ly : Nat) (w : zs_W) (hp10 : p < 10) (hw : ∀ q, q < 10 → Y.1 2 q 0 = w.1 q) (h3 : ly ≤ 3) (hwp : w.1 p ≤ ly) (hlf : w.2 < 2 ^ 30) (hBT : zs_B T) (hBY : zs_B Y) : Met l yX7_takes wsX7_takes ({ frames := 1, cells := 0, slots := 0, locals := 20 } : Room) (za_Pc E b (ad, S, X, T, Y, ow, dw) [.ref (ad 14 0), .int (nI p), .int (nI ly), .int (nI w.2)]) (za_Qi E b (fun r u => ∃ Y2, r = nI (zs_tm T ly w p).2 ∧ u = (ad, S, X, T, Y2, ow, dw) ∧ (∀ q, q < 10 → Y2.1 2 q 0 = (zs_tm T ly w p).1 q) ∧ (∀ j, Y2.1 1 j 0 = Y.1 1 j 0) ∧ zm_fy Y Y2)) (0) (0) (za_A b) := by
  refine zm_met (ccm := cX7_takes) (maxL := 5) (ret := (some .int)) (ws' := _) (own := RX7) (lv := [(0, .ref (ad 14 0)), (1, .int (nI p)), (2, .int (nI ly)), (3, .int (nI w.2))]) (by decide) rfl rfl rfl (by simp [lg_sl, Value.category]) ?_
  intro pg en s m below meth c hx hb hml hr hown hts hlocks hK hZ hb0 hG hS ls hl
  have hf13 := hts (.fieldLink RX7 13 "VideoBridgeModel" "sends" "[I") (by decide +kernel)
  have hf63 := hts (.fieldLink RX7 63 "VideoBridgeModel" "layers" "[I") (by decide +kernel)
  have hinX7 : ∀ w ∈ u_ws RX7 TX7 25, w ∈ wsX7_takes := by decide +kernel
  skip
  have hnm := zs_nm hwp h3
  have hn9 := zs_need_le ly
  have hn8 := zs_need_le (w.1 p)
  refine lv_iload_n hx hb dX7_takes_0 rfl (lv_at hl 2 rfl) ?_
  refine zc_Si (As := [.int (nI ly)]) (rest := []) hK hZ hb0 hG hS hx hb hml hown hts (c_X7_need l ly h3) (cwS 1 hts gX7_takes_X7_need rfl rfl rfl (by decide +kernel) ⟨Nat.le_of_ble_eq_true rfl, Nat.le_of_ble_eq_true rfl⟩) rfl hl rfl (Nat.le_of_ble_eq_true rfl) dX7_takes_1 ⟨Nat.le_of_ble_eq_true rfl, Nat.le_of_ble_eq_true rfl⟩ (fun r_1 u_1 H locs hp hG hS => ?_)
  obtain ⟨rfl, rfl⟩ := hp
  refine lv_aload_n hx hb dX7_takes_4 rfl (lv_at hl 0 rfl) ?_
  refine zg_MO_layers hx hb hts hinX7 hown hf63 hK hG dX7_takes_5 ?_
  refine lv_iload_n hx hb dX7_takes_8 rfl (lv_at hl 1 rfl) ?_
  refine zld_MY (n := w.1 p) hx hb hK hG (by omega) (hw p hp10) dX7_takes_9 ?_
  refine zc_Si (As := [.int (nI (w.1 p))]) (rest := [.int (nI (zs_need ly))]) hK hZ hb0 hG hS hx hb hml hown hts (c_X7_need l (w.1 p) (Nat.le_trans hwp h3)) (cwS 1 hts gX7_takes_X7_need rfl rfl rfl (by decide +kernel) ⟨Nat.le_of_ble_eq_true rfl, Nat.le_of_ble_eq_true rfl⟩) rfl hl rfl (Nat.le_of_ble_eq_true rfl) dX7_takes_10 ⟨Nat.le_of_ble_eq_true rfl, Nat.le_of_ble_eq_true rfl⟩ (fun r_10 u_10 H locs hp hG hS => ?_)
  obtain ⟨rfl, rfl⟩ := hp
  refine zb_isub hx hb (by omega) dX7_takes_13 ?_
  refine lv_istore (lv' := [(4, .int (nI ((zs_need ly) - (zs_need (w.1 p))))), (0, .ref (ad 14 0)), (1, .int (nI p)), (2, .int (nI ly)), (3, .int (nI w.2))]) hx hb dX7_takes_14 hl (by decide) rfl (fun ls hl => ?_)
  refine lv_aload_n hx hb dX7_takes_16 rfl (lv_at hl 1 rfl) ?_
  refine zg_MO_sends hx hb hts hinX7 hown hf13 hK hG dX7_takes_17 ?_
  refine lv_iload_n hx hb dX7_takes_20 rfl (lv_at hl 2 rfl) ?_
  refine zld_MS (n := T.1 2 p 0) hx hb hK hG (by omega) rfl dX7_takes_21 ?_
  refine lv_iload_n hx hb dX7_takes_22 rfl (lv_at hl 3 rfl) ?_
  refine zb_icmp_lt (x := T.1 2 p 0) (y := ly) (tgt := 32) hx hb (by have := hBT 2 p 0; omega) (by omega) dX7_takes_23 (by decide) (fun c_23 => ?_) (fun c_23 => ?_)
  · refine lv_iload_n hx hb dX7_takes_32 rfl (lv_at hl 4 rfl) ?_
    exact zm_iret hx hb hr hlocks hG hS (by omega) (by omega) ⟨Y, by first | rw [show zs_tm T ly w p = w from if_pos (Or.inl c_23)] | rw [show zs_tm T ly w p = w from if_pos (Or.inr c_29)], rfl, fun q hq => by rw [hw q hq]; first | rw [show zs_tm T ly w p = w from if_pos (Or.inl c_23)] | rw [show zs_tm T ly w p = w from if_pos (Or.inr c_29)], fun _ => rfl, rfl, hBY⟩ dX7_takes_33
  · refine lv_iload hx hb dX7_takes_26 (lv_at hl 0 rfl) ?_
    refine lv_iload_n hx hb dX7_takes_28 rfl (lv_at hl 4 rfl) ?_
    refine zb_icmp_le (x := (zs_need ly) - (zs_need (w.1 p))) (y := w.2) (tgt := 34) hx hb (by have := zs_need_le ly; have := zs_need_le (w.1 p); omega) (by omega) dX7_takes_29 (by decide) (fun c_29 => ?_) (fun c_29 => ?_)
    · refine lv_aload_n hx hb dX7_takes_34 rfl (lv_at hl 1 rfl) ?_
      refine zg_MO_layers hx hb hts hinX7 hown hf63 hK hG dX7_takes_35 ?_
      refine lv_iload_n hx hb dX7_takes_38 rfl (lv_at hl 2 rfl) ?_
      refine lv_iload_n hx hb dX7_takes_39 rfl (lv_at hl 3 rfl) ?_
      refine zst_MY hx hb hK hG hS (by omega) dX7_takes_40 (fun H locs hG hS => ?_)
      refine lv_iload_n hx hb dX7_takes_41 rfl (lv_at hl 4 rfl) ?_
      refine lv_iload hx hb dX7_takes_42 (lv_at hl 0 rfl) ?_
      refine zb_isub hx hb (by omega) dX7_takes_44 ?_
      have e9 : zs_tm T ly w p = (fun q => if q = p then ly else w.1 q, w.2 - (zs_need ly - zs_need (w.1 p))) := if_neg (by omega)
      exact zm_iret hx hb hr hlocks hG hS (by omega) (by omega) ⟨_, by rw [e9], rfl, fun q hq => by
            rw [e9]
            show (if _ then _ else _) = if q = p then ly else w.1 q
            by_cases h9 : q = p
            · rw [if_pos ⟨rfl, h9, rfl⟩, if_pos h9]
            · rw [if_neg (fun z => h9 z.2.1), if_neg h9, hw q hq], fun _ => rfl, rfl, zs_N_B hBY (by omega)⟩ dX7_takes_45
    · refine lv_iload_n hx hb dX7_takes_32 rfl (lv_at hl 4 rfl) ?_
      exact zm_iret hx hb hr hlocks hG hS (by omega) (by omega) ⟨Y, by first | rw [show zs_tm T ly w p = w from if_pos (Or.inl c_23)] | rw [show zs_tm T ly w p = w from if_pos (Or.inr c_29)], rfl, fun q hq => by rw [hw q hq]; first | rw [show zs_tm T ly w p = w from if_pos (Or.inl c_23)] | rw [show zs_tm T ly w p = w from if_pos (Or.inr c_29)], fun _ => rfl, rfl, hBY⟩ dX7_takes_33

set_option maxRecDepth 100000 in
set_option maxHeartbeats 4000000 in
theorem c_X7_uses (l : Launch) {E : za_E} {b : Nat} {ad : za_Ad} {S X T Y : za_S} {ow : Int64} {dw : UInt64} (v : Nat) (hI : zs_I T) (hv : v < T.1 0 0 0) (hBY : zs_B Y) : Met l yX7_uses wsX7_uses ({ frames := 2, cells := 0, slots := 0, locals := 44 } : Room) (za_Pc E b (ad, S, X, T, Y, ow, dw) [.ref (ad 14 0), .int (nI v)]) (za_Qi E b (fun r u => r = nI (zs_us T v) ∧ ∃ Y2, u = (ad, S, X, T, Y2, ow, dw) ∧ zm_fy Y Y2 ∧ ∀ p, p < 10 → Y2.1 2 p 0 = (zs_ch T v).1 p)) (0) (0) (za_A b) := by
  refine zm_met (ccm := cX7_uses) (maxL := 8) (ret := (some .int)) (ws' := _) (own := RX7) (lv := [(0, .ref (ad 14 0)), (1, .int (nI v))]) (by decide) rfl rfl rfl (by simp [lg_sl, Value.category]) ?_
  intro pg en s m below meth c hx hb hml hr hown hts hlocks hK hZ hb0 hG hS ls hl
  have hf19 := hts (.fieldLink RX7 19 "VideoBridgeModel" "roomOf" "[I") (by decide +kernel)
  have hf22 := hts (.fieldLink RX7 22 "VideoBridgeModel" "pins" "[I") (by decide +kernel)
  have hf29 := hts (.fieldLink RX7 29 "VideoBridgeModel" "sizes" "[I") (by decide +kernel)
  have hf32 := hts (.fieldLink RX7 32 "VideoBridgeModel" "who" "[I") (by decide +kernel)
  have hf35 := hts (.fieldLink RX7 35 "VideoBridgeModel" "speakers" "[I") (by decide +kernel)
  have hf60 := hts (.fieldLink RX7 60 "VideoBridgeModel" "order" "[I") (by decide +kernel)
  have hf63 := hts (.fieldLink RX7 63 "VideoBridgeModel" "layers" "[I") (by decide +kernel)
  have hf7 := hts (.fieldLink RX7 7 "VideoBridgeModel" "budgets" "[I") (by decide +kernel)
  have hinX7 : ∀ w ∈ u_ws RX7 TX7 25, w ∈ wsX7_uses := by decide +kernel
  skip
  have hBT := hI.B
  have hc1 := hI.c
  have hLl := (hI.Va v hv).len
  have hLn : ∀ x, x ∈ zs_ln T v → x < 10 := fun x hx => by have := (zs_ln_tg hI hv hx).1; omega
  refine zb_iconst (n := 0) hx hb dX7_uses_0 (by decide) ?_
  refine lv_istore_n (lv' := [(2, .int (nI 0)), (0, .ref (ad 14 0)), (1, .int (nI v))]) hx hb dX7_uses_1 rfl hl (by decide) rfl (fun ls hl => ?_)
  have loop2 : ∀ (N : Nat) (Y1 : za_S) (i : Nat), (i ≤ 10) → (zm_fy Y Y1) → (∀ q, q < i → Y1.1 2 q 0 = 0) → 10 - i < N → ∀ (H : Heap) (locs : List Loc), za_G E b (ad, S, X, T, Y1, ow, dw) H → va_S (za_A b) s.heap H locs → ∀ ls : Array Slot, lv_has ls 8 [(0, .ref (ad 14 0)), (1, .int (nI v)), (2, .int (nI i))] → W pg l en ({ frames := 2, cells := 0, slots := 0, locals := 44 } : Room) s m ([.ref (ad 14 0), .int (nI v)] : List Value).toArray below meth c H locs (0) (0) (MQ below (za_Qi E b (fun r u => r = nI (zs_us T v) ∧ ∃ Y2, u = (ad, S, X, T, Y2, ow, dw) ∧ zm_fy Y Y2 ∧ ∀ p, p < 10 → Y2.1 2 p 0 = (zs_ch T v).1 p)) ([.ref (ad 14 0), .int (nI v)] : List Value).toArray s (0) (0) (za_A b)) (F0 m 2 ls []) := by
    intro N
    induction N with
    | zero => intro Y1 i hi hfy hz1 hN; exact absurd hN (Nat.not_lt_zero _)
    | succ N ih2 =>
      intro Y1 i hi hfy hz1 hN H locs hG hS ls hl
      refine lv_iload_n hx hb dX7_uses_2 rfl (lv_at hl 2 rfl) ?_
      refine zb_bipush (n := 10) hx hb dX7_uses_3 (by decide) ?_
      refine zb_icmp_ge (x := i) (y := 10) (tgt := 21) hx hb (by omega) (by omega) dX7_uses_5 (by decide) (fun c_5 => ?_) (fun c_5 => ?_)
      · obtain rfl : i = 10 := by omega
        refine lv_aload_n hx hb dX7_uses_21 rfl (lv_at hl 0 rfl) ?_
        refine zg_MO_roomOf hx hb hts hinX7 hown hf19 hK hG dX7_uses_22 ?_
        refine lv_iload_n hx hb dX7_uses_25 rfl (lv_at hl 1 rfl) ?_
        refine zld_MR (r := T.2 0 v 0) hx hb hK hG (by omega) rfl dX7_uses_26 ?_
        refine lv_istore_n (lv' := [(2, .int (za_enc (T.2 0 v 0))), (0, .ref (ad 14 0)), (1, .int (nI v))]) hx hb dX7_uses_27 rfl hl (by decide) rfl (fun ls hl => ?_)
        refine lv_iload_n hx hb dX7_uses_28 rfl (lv_at hl 0 rfl) ?_
        refine zb_iconstm hx hb dX7_uses_29 ?_
        refine zb_ecmp_ne (tgt := 35) hx hb (T.2 0 v 0) none (fun x h => by have := hI.ro hv h; omega) (by rintro _ ⟨⟩) dX7_uses_30 (by decide) (fun c_30 => ?_) (fun c_30 => ?_)
        · obtain ⟨y_30, hy_30⟩ := Option.ne_none_iff_exists'.mp c_30
          have hr6 : y_30 < 6 := by have := hI.ro hv hy_30; omega
          have hsz := hI.sz y_30
          have hVv := hI.Va v hv
          rw [hy_30] at hl
          have hl : lv_has ls 8 [(2, .int (nI y_30)), (0, .ref (ad 14 0)), (1, .int (nI v))] := hl
          have gcut74 : ∀ (Y1 : za_S) (H : Heap) (locs : List Loc), (zm_fy Y Y1) → (∀ q, q < 10 → Y1.1 2 q 0 = 0) → za_G E b (ad, S, X, T, Y1, ow, dw) H → va_S (za_A b) s.heap H locs → ∀ ls : Array Slot, lv_has ls 8 [(0, .ref (ad 14 0)), (1, .int (nI v)), (2, .int (nI y_30))] → W pg l en ({ frames := 2, cells := 0, slots := 0, locals := 44 } : Room) s m ([.ref (ad 14 0), .int (nI v)] : List Value).toArray below meth c H locs (0) (0) (MQ below (za_Qi E b (fun r u => r = nI (zs_us T v) ∧ ∃ Y2, u = (ad, S, X, T, Y2, ow, dw) ∧ zm_fy Y Y2 ∧ ∀ p, p < 10 → Y2.1 2 p 0 = (zs_ch T v).1 p)) ([.ref (ad 14 0), .int (nI v)] : List Value).toArray s (0) (0) (za_A b)) (F0 m 74 ls [.int (za_enc (zm_f T v y_30))]) := by
            intro Y1 H locs hfy hz1 hG hS ls hl
            refine lv_istore_n (lv' := [(3, .int (za_enc (zm_f T v y_30))), (0, .ref (ad 14 0)), (1, .int (nI v)), (2, .int (nI y_30))]) hx hb dX7_uses_74 rfl hl (by decide) rfl (fun ls hl => ?_)
            have gcut93 : ∀ (Y1 : za_S) (H : Heap) (locs : List Loc), (zm_or Y1 (zs_rest T v y_30 0)) → (zm_fy Y Y1) → (∀ q, q < 10 → Y1.1 2 q 0 = 0) → za_G E b (ad, S, X, T, Y1, ow, dw) H → va_S (za_A b) s.heap H locs → ∀ ls : Array Slot, lv_has ls 8 [(0, .ref (ad 14 0)), (1, .int (nI v)), (2, .int (nI y_30)), (3, .int (za_enc (zm_f T v y_30))), (4, .int (nI ((zs_rest T v y_30 0).length)))] → W pg l en ({ frames := 2, cells := 0, slots := 0, locals := 44 } : Room) s m ([.ref (ad 14 0), .int (nI v)] : List Value).toArray below meth c H locs (0) (0) (MQ below (za_Qi E b (fun r u => r = nI (zs_us T v) ∧ ∃ Y2, u = (ad, S, X, T, Y2, ow, dw) ∧ zm_fy Y Y2 ∧ ∀ p, p < 10 → Y2.1 2 p 0 = (zs_ch T v).1 p)) ([.ref (ad 14 0), .int (nI v)] : List Value).toArray s (0) (0) (za_A b)) (F0 m 93 ls []) := by
              intro Y1 H locs hor hfy hz1 hG hS ls hl
              refine zb_iconst (n := 0) hx hb dX7_uses_93 (by decide) ?_
              refine lv_istore (lv' := [(5, .int (nI 0)), (0, .ref (ad 14 0)), (1, .int (nI v)), (2, .int (nI y_30)), (3, .int (za_enc (zm_f T v y_30))), (4, .int (nI ((zs_rest T v y_30 0).length)))]) hx hb dX7_uses_94 hl (by decide) rfl (fun ls hl => ?_)
              have loop96 : ∀ (N : Nat) (Y1 : za_S) (k : Nat), (k ≤ T.1 5 y_30 0) → (zm_or Y1 (zs_rest T v y_30 k)) → (zm_fy Y Y1) → (∀ q, q < 10 → Y1.1 2 q 0 = 0) → T.1 5 y_30 0 - k < N → ∀ (H : Heap) (locs : List Loc), za_G E b (ad, S, X, T, Y1, ow, dw) H → va_S (za_A b) s.heap H locs → ∀ ls : Array Slot, lv_has ls 8 [(0, .ref (ad 14 0)), (1, .int (nI v)), (2, .int (nI y_30)), (3, .int (za_enc (zm_f T v y_30))), (4, .int (nI ((zs_rest T v y_30 k).length))), (5, .int (nI k))] → W pg l en ({ frames := 2, cells := 0, slots := 0, locals := 44 } : Room) s m ([.ref (ad 14 0), .int (nI v)] : List Value).toArray below meth c H locs (0) (0) (MQ below (za_Qi E b (fun r u => r = nI (zs_us T v) ∧ ∃ Y2, u = (ad, S, X, T, Y2, ow, dw) ∧ zm_fy Y Y2 ∧ ∀ p, p < 10 → Y2.1 2 p 0 = (zs_ch T v).1 p)) ([.ref (ad 14 0), .int (nI v)] : List Value).toArray s (0) (0) (za_A b)) (F0 m 96 ls []) := by
                intro N
                induction N with
                | zero => intro Y1 k hk hor hfy hz1 hN; exact absurd hN (Nat.not_lt_zero _)
                | succ N ih96 =>
                  intro Y1 k hk hor hfy hz1 hN H locs hG hS ls hl
                  have hlen : (zs_rest T v y_30 k).length < 10 := hVv.2.2.2.2.1 _ k hy_30 hk
                  refine lv_iload hx hb dX7_uses_96 (lv_at hl 5 rfl) ?_
                  refine lv_aload_n hx hb dX7_uses_98 rfl (lv_at hl 0 rfl) ?_
                  refine zg_MO_sizes hx hb hts hinX7 hown hf29 hK hG dX7_uses_99 ?_
                  refine lv_iload_n hx hb dX7_uses_102 rfl (lv_at hl 2 rfl) ?_
                  refine zld_MZ (n := T.1 5 y_30 0) hx hb hK hG (by omega) rfl dX7_uses_103 ?_
                  refine zb_icmp_ge (x := k) (y := T.1 5 y_30 0) (tgt := 151) hx hb (by omega) (by have := hBT 5 y_30 0; omega) dX7_uses_104 (by decide) (fun c_104 => ?_) (fun c_104 => ?_)
                  · obtain rfl : k = T.1 5 y_30 0 := by omega
                    rw [zm_ln hy_30] at hl hor
                    refine lv_aload_n hx hb dX7_uses_151 rfl (lv_at hl 0 rfl) ?_
                    refine zg_MO_budgets hx hb hts hinX7 hown hf7 hK hG dX7_uses_152 ?_
                    refine lv_iload_n hx hb dX7_uses_155 rfl (lv_at hl 1 rfl) ?_
                    refine zld_MB (n := T.1 1 v 0) hx hb hK hG (by omega) rfl dX7_uses_156 ?_
                    refine lv_istore (lv' := [(5, .int (nI (T.1 1 v 0))), (0, .ref (ad 14 0)), (1, .int (nI v)), (2, .int (nI y_30)), (3, .int (za_enc (zm_f T v y_30))), (4, .int (nI ((zs_ln T v).length)))]) hx hb dX7_uses_157 hl (by decide) rfl (fun ls hl => ?_)
                    refine zb_iconst (n := 0) hx hb dX7_uses_159 (by decide) ?_
                    refine lv_istore (lv' := [(6, .int (nI 0)), (5, .int (nI (T.1 1 v 0))), (0, .ref (ad 14 0)), (1, .int (nI v)), (2, .int (nI y_30)), (3, .int (za_enc (zm_f T v y_30))), (4, .int (nI ((zs_ln T v).length)))]) hx hb dX7_uses_160 hl (by decide) rfl (fun ls hl => ?_)
                    have loop162 : ∀ (N : Nat) (Y1 : za_S) (i : Nat), (i ≤ (zs_ln T v).length) → (zm_or Y1 (zs_ln T v)) → (zm_fy Y Y1) → (∀ q, q < 10 → Y1.1 2 q 0 = (zs_fa T 1 ((zs_ln T v).take i) (zm_w0 T v)).1 q) → (zs_ln T v).length - i < N → ∀ (H : Heap) (locs : List Loc), za_G E b (ad, S, X, T, Y1, ow, dw) H → va_S (za_A b) s.heap H locs → ∀ ls : Array Slot, lv_has ls 8 [(0, .ref (ad 14 0)), (1, .int (nI v)), (2, .int (nI y_30)), (3, .int (za_enc (zm_f T v y_30))), (4, .int (nI ((zs_ln T v).length))), (5, .int (nI ((zs_fa T 1 ((zs_ln T v).take i) (zm_w0 T v)).2))), (6, .int (nI i))] → W pg l en ({ frames := 2, cells := 0, slots := 0, locals := 44 } : Room) s m ([.ref (ad 14 0), .int (nI v)] : List Value).toArray below meth c H locs (0) (0) (MQ below (za_Qi E b (fun r u => r = nI (zs_us T v) ∧ ∃ Y2, u = (ad, S, X, T, Y2, ow, dw) ∧ zm_fy Y Y2 ∧ ∀ p, p < 10 → Y2.1 2 p 0 = (zs_ch T v).1 p)) ([.ref (ad 14 0), .int (nI v)] : List Value).toArray s (0) (0) (za_A b)) (F0 m 162 ls []) := by
                      intro N
                      induction N with
                      | zero => intro Y1 i hi hor hfy hlw hN; exact absurd hN (Nat.not_lt_zero _)
                      | succ N ih162 =>
                        intro Y1 i hi hor hfy hlw hN H locs hG hS ls hl
                        obtain ⟨hwl, hw2⟩ := zs_fa_le (S := T) (Nat.le_refl 1) ((zs_ln T v).take i) (zm_w0 T v) (fun _ => Nat.zero_le _)
                        have hw2 : (zs_fa T 1 ((zs_ln T v).take i) (zm_w0 T v)).2 ≤ T.1 1 v 0 := hw2
                        have hb1 := hBT 1 v 0
                        refine lv_iload hx hb dX7_uses_162 (lv_at hl 6 rfl) ?_
                        refine lv_iload hx hb dX7_uses_164 (lv_at hl 4 rfl) ?_
                        refine zb_icmp_ge (x := i) (y := (zs_ln T v).length) (tgt := 191) hx hb (by omega) (by omega) dX7_uses_166 (by decide) (fun c_166 => ?_) (fun c_166 => ?_)
                        · obtain rfl : i = (zs_ln T v).length := by omega
                          rw [List.take_length] at hl hlw
                          have hl : lv_has ls 8 [(0, .ref (ad 14 0)), (1, .int (nI v)), (2, .int (nI y_30)), (3, .int (za_enc (zm_f T v y_30))), (4, .int (nI ((zs_ln T v).length))), (5, .int (nI ((zm_w1 T v).2)))] := lv_sub hl [0, 1, 2, 3, 4, 5] rfl
                          have hlw : ∀ q, q < 10 → Y1.1 2 q 0 = (zm_w1 T v).1 q := hlw
                          obtain ⟨hw1l, hw1b⟩ := zm_w1_le T v
                          obtain ⟨hw2l, hw2b⟩ := zm_w2_le T v
                          obtain ⟨hw3l, hw3b⟩ := zm_w3_le T v
                          obtain ⟨hw4l, hw4b⟩ := zm_w4_le T v
                          obtain ⟨hw5l, hw5b⟩ := zm_w5_le T v
                          have hb1 := hBT 1 v 0
                          have gcut226 : ∀ (Y1 : za_S) (H : Heap) (locs : List Loc), (zm_or Y1 (zs_ln T v)) → (zm_fy Y Y1) → (∀ q, q < 10 → Y1.1 2 q 0 = (zm_w3 T v).1 q) → za_G E b (ad, S, X, T, Y1, ow, dw) H → va_S (za_A b) s.heap H locs → ∀ ls : Array Slot, lv_has ls 8 [(0, .ref (ad 14 0)), (1, .int (nI v)), (2, .int (nI y_30)), (3, .int (za_enc (zm_f T v y_30))), (4, .int (nI ((zs_ln T v).length))), (5, .int (nI ((zm_w3 T v).2)))] → W pg l en ({ frames := 2, cells := 0, slots := 0, locals := 44 } : Room) s m ([.ref (ad 14 0), .int (nI v)] : List Value).toArray below meth c H locs (0) (0) (MQ below (za_Qi E b (fun r u => r = nI (zs_us T v) ∧ ∃ Y2, u = (ad, S, X, T, Y2, ow, dw) ∧ zm_fy Y Y2 ∧ ∀ p, p < 10 → Y2.1 2 p 0 = (zs_ch T v).1 p)) ([.ref (ad 14 0), .int (nI v)] : List Value).toArray s (0) (0) (za_A b)) (F0 m 226 ls []) := by
                            intro Y1 H locs hor hfy hlw hG hS ls hl
                            refine zb_iconst (n := 2) hx hb dX7_uses_226 (by decide) ?_
                            refine lv_istore (lv' := [(6, .int (nI 2)), (0, .ref (ad 14 0)), (1, .int (nI v)), (2, .int (nI y_30)), (3, .int (za_enc (zm_f T v y_30))), (4, .int (nI ((zs_ln T v).length))), (5, .int (nI ((zm_w3 T v).2)))]) hx hb dX7_uses_227 hl (by decide) rfl (fun ls hl => ?_)
                            refine lv_iload hx hb dX7_uses_229 (lv_at hl 0 rfl) ?_
                            refine zb_iconst (n := 4) hx hb dX7_uses_231 (by decide) ?_
                            refine zb_icmp_ge (x := 2) (y := 4) (tgt := 298) hx hb (by decide) (by decide) dX7_uses_232 (by decide) (fun c9 => absurd c9 (by decide)) (fun _ => ?_)
                            refine zb_iconst (n := 0) hx hb dX7_uses_235 (by decide) ?_
                            refine lv_istore (lv' := [(7, .int (nI 0)), (6, .int (nI 2)), (0, .ref (ad 14 0)), (1, .int (nI v)), (2, .int (nI y_30)), (3, .int (za_enc (zm_f T v y_30))), (4, .int (nI ((zs_ln T v).length))), (5, .int (nI ((zm_w3 T v).2)))]) hx hb dX7_uses_236 hl (by decide) rfl (fun ls hl => ?_)
                            have loop238 : ∀ (N : Nat) (Y1 : za_S) (i : Nat), (i ≤ (zs_ln T v).length) → (zm_or Y1 (zs_ln T v)) → (zm_fy Y Y1) → (∀ q, q < 10 → Y1.1 2 q 0 = (zs_fa T 2 ((zs_ln T v).take i) (zm_w3 T v)).1 q) → (zs_ln T v).length - i < N → ∀ (H : Heap) (locs : List Loc), za_G E b (ad, S, X, T, Y1, ow, dw) H → va_S (za_A b) s.heap H locs → ∀ ls : Array Slot, lv_has ls 8 [(0, .ref (ad 14 0)), (1, .int (nI v)), (2, .int (nI y_30)), (3, .int (za_enc (zm_f T v y_30))), (4, .int (nI ((zs_ln T v).length))), (5, .int (nI ((zs_fa T 2 ((zs_ln T v).take i) (zm_w3 T v)).2))), (6, .int (nI 2)), (7, .int (nI i))] → W pg l en ({ frames := 2, cells := 0, slots := 0, locals := 44 } : Room) s m ([.ref (ad 14 0), .int (nI v)] : List Value).toArray below meth c H locs (0) (0) (MQ below (za_Qi E b (fun r u => r = nI (zs_us T v) ∧ ∃ Y2, u = (ad, S, X, T, Y2, ow, dw) ∧ zm_fy Y Y2 ∧ ∀ p, p < 10 → Y2.1 2 p 0 = (zs_ch T v).1 p)) ([.ref (ad 14 0), .int (nI v)] : List Value).toArray s (0) (0) (za_A b)) (F0 m 238 ls []) := by
                              intro N
                              induction N with
                              | zero => intro Y1 i hi hor hfy hlw hN; exact absurd hN (Nat.not_lt_zero _)
                              | succ N ih238 =>
                                intro Y1 i hi hor hfy hlw hN H locs hG hS ls hl
                                obtain ⟨hwl, hw2⟩ := zs_fa_le (S := T) (c := 3) (by decide : 2 ≤ 3) ((zs_ln T v).take i) (zm_w3 T v) hw3l
                                have hw2 : (zs_fa T 2 ((zs_ln T v).take i) (zm_w3 T v)).2 ≤ T.1 1 v 0 := Nat.le_trans hw2 hw3b
                                refine lv_iload hx hb dX7_uses_238 (lv_at hl 7 rfl) ?_
                                refine lv_iload hx hb dX7_uses_240 (lv_at hl 4 rfl) ?_
                                refine zb_icmp_ge (x := i) (y := (zs_ln T v).length) (tgt := 292) hx hb (by omega) (by omega) dX7_uses_242 (by decide) (fun c_242 => ?_) (fun c_242 => ?_)
                                · obtain rfl : i = (zs_ln T v).length := by omega
                                  rw [List.take_length] at hl hlw
                                  have hl : lv_has ls 8 [(0, .ref (ad 14 0)), (1, .int (nI v)), (2, .int (nI y_30)), (3, .int (za_enc (zm_f T v y_30))), (4, .int (nI ((zs_ln T v).length))), (5, .int (nI ((zm_w4 T v).2))), (6, .int (nI 2))] := lv_sub hl [0, 1, 2, 3, 4, 5, 6] rfl
                                  have hlw : ∀ q, q < 10 → Y1.1 2 q 0 = (zm_w4 T v).1 q := hlw
                                  refine zb_iinc (n := 1) (k := 6) (lv' := [(6, .int (nI 3)), (0, .ref (ad 14 0)), (1, .int (nI v)), (2, .int (nI y_30)), (3, .int (za_enc (zm_f T v y_30))), (4, .int (nI ((zs_ln T v).length))), (5, .int (nI ((zm_w4 T v).2)))]) hx hb dX7_uses_292 hl rfl (by decide) (by decide) rfl (fun ls hl => ?_)
                                  refine zb_goto (tgt := 229) hx hb dX7_uses_295 (by decide) ?_
                                  refine lv_iload hx hb dX7_uses_229 (lv_at hl 0 rfl) ?_
                                  refine zb_iconst (n := 4) hx hb dX7_uses_231 (by decide) ?_
                                  refine zb_icmp_ge (x := 3) (y := 4) (tgt := 298) hx hb (by decide) (by decide) dX7_uses_232 (by decide) (fun c9 => absurd c9 (by decide)) (fun _ => ?_)
                                  refine zb_iconst (n := 0) hx hb dX7_uses_235 (by decide) ?_
                                  refine lv_istore (lv' := [(7, .int (nI 0)), (6, .int (nI 3)), (0, .ref (ad 14 0)), (1, .int (nI v)), (2, .int (nI y_30)), (3, .int (za_enc (zm_f T v y_30))), (4, .int (nI ((zs_ln T v).length))), (5, .int (nI ((zm_w4 T v).2)))]) hx hb dX7_uses_236 hl (by decide) rfl (fun ls hl => ?_)
                                  have loop238 : ∀ (N : Nat) (Y1 : za_S) (i : Nat), (i ≤ (zs_ln T v).length) → (zm_or Y1 (zs_ln T v)) → (zm_fy Y Y1) → (∀ q, q < 10 → Y1.1 2 q 0 = (zs_fa T 3 ((zs_ln T v).take i) (zm_w4 T v)).1 q) → (zs_ln T v).length - i < N → ∀ (H : Heap) (locs : List Loc), za_G E b (ad, S, X, T, Y1, ow, dw) H → va_S (za_A b) s.heap H locs → ∀ ls : Array Slot, lv_has ls 8 [(0, .ref (ad 14 0)), (1, .int (nI v)), (2, .int (nI y_30)), (3, .int (za_enc (zm_f T v y_30))), (4, .int (nI ((zs_ln T v).length))), (5, .int (nI ((zs_fa T 3 ((zs_ln T v).take i) (zm_w4 T v)).2))), (6, .int (nI 3)), (7, .int (nI i))] → W pg l en ({ frames := 2, cells := 0, slots := 0, locals := 44 } : Room) s m ([.ref (ad 14 0), .int (nI v)] : List Value).toArray below meth c H locs (0) (0) (MQ below (za_Qi E b (fun r u => r = nI (zs_us T v) ∧ ∃ Y2, u = (ad, S, X, T, Y2, ow, dw) ∧ zm_fy Y Y2 ∧ ∀ p, p < 10 → Y2.1 2 p 0 = (zs_ch T v).1 p)) ([.ref (ad 14 0), .int (nI v)] : List Value).toArray s (0) (0) (za_A b)) (F0 m 238 ls []) := by
                                    intro N
                                    induction N with
                                    | zero => intro Y1 i hi hor hfy hlw hN; exact absurd hN (Nat.not_lt_zero _)
                                    | succ N ih238 =>
                                      intro Y1 i hi hor hfy hlw hN H locs hG hS ls hl
                                      obtain ⟨hwl, hw2⟩ := zs_fa_le (S := T) (c := 3) (by decide : 3 ≤ 3) ((zs_ln T v).take i) (zm_w4 T v) hw4l
                                      have hw2 : (zs_fa T 3 ((zs_ln T v).take i) (zm_w4 T v)).2 ≤ T.1 1 v 0 := Nat.le_trans hw2 hw4b
                                      refine lv_iload hx hb dX7_uses_238 (lv_at hl 7 rfl) ?_
                                      refine lv_iload hx hb dX7_uses_240 (lv_at hl 4 rfl) ?_
                                      refine zb_icmp_ge (x := i) (y := (zs_ln T v).length) (tgt := 292) hx hb (by omega) (by omega) dX7_uses_242 (by decide) (fun c_242 => ?_) (fun c_242 => ?_)
                                      · obtain rfl : i = (zs_ln T v).length := by omega
                                        rw [List.take_length] at hl hlw
                                        have hl : lv_has ls 8 [(0, .ref (ad 14 0)), (1, .int (nI v)), (2, .int (nI y_30)), (3, .int (za_enc (zm_f T v y_30))), (4, .int (nI ((zs_ln T v).length))), (5, .int (nI ((zs_ch T v).2))), (6, .int (nI 3))] := lv_sub hl [0, 1, 2, 3, 4, 5, 6] rfl
                                        have hlw : ∀ q, q < 10 → Y1.1 2 q 0 = (zs_ch T v).1 q := hlw
                                        refine zb_iinc (n := 1) (k := 6) (lv' := [(6, .int (nI 4)), (0, .ref (ad 14 0)), (1, .int (nI v)), (2, .int (nI y_30)), (3, .int (za_enc (zm_f T v y_30))), (4, .int (nI ((zs_ln T v).length))), (5, .int (nI ((zs_ch T v).2)))]) hx hb dX7_uses_292 hl rfl (by decide) (by decide) rfl (fun ls hl => ?_)
                                        refine zb_goto (tgt := 229) hx hb dX7_uses_295 (by decide) ?_
                                        refine lv_iload hx hb dX7_uses_229 (lv_at hl 0 rfl) ?_
                                        refine zb_iconst (n := 4) hx hb dX7_uses_231 (by decide) ?_
                                        refine zb_icmp_ge (x := 4) (y := 4) (tgt := 298) hx hb (by decide) (by decide) dX7_uses_232 (by decide) (fun _ => ?_) (fun c9 => absurd c9 (by decide))
                                        have hus := zs_us_eq hI hv
                                        refine lv_aload_n hx hb dX7_uses_298 rfl (lv_at hl 1 rfl) ?_
                                        refine zg_MO_budgets hx hb hts hinX7 hown hf7 hK hG dX7_uses_299 ?_
                                        refine lv_iload_n hx hb dX7_uses_302 rfl (lv_at hl 2 rfl) ?_
                                        refine zld_MB (n := T.1 1 v 0) hx hb hK hG (by omega) rfl dX7_uses_303 ?_
                                        refine lv_iload hx hb dX7_uses_304 (lv_at hl 6 rfl) ?_
                                        refine zb_isub hx hb (by omega) dX7_uses_306 ?_
                                        exact zm_iret hx hb hr hlocks hG hS (by omega) (by omega) ⟨congrArg nI (by omega), Y1, rfl, hfy, hlw⟩ dX7_uses_307
                                      · have hL9 : zs_ln T v ≠ [] := fun q => by rw [q] at c_242; exact absurd c_242 (Nat.not_lt_zero _)
                                        obtain ⟨x9, hx9⟩ : ∃ x, Y1.1 1 i 0 = x := ⟨_, rfl⟩
                                        have hg9 := hor i c_242
                                        rw [hx9] at hg9
                                        obtain ⟨hi9, hgi9⟩ := List.getElem?_eq_some_iff.mp hg9
                                        have hx8 := (hLn x9 (List.mem_of_getElem? hg9))
                                        have hw9 := hwl x9
                                        refine lv_aload_n hx hb dX7_uses_245 rfl (lv_at hl 0 rfl) ?_
                                        refine zg_MO_layers hx hb hts hinX7 hown hf63 hK hG dX7_uses_246 ?_
                                        refine lv_aload_n hx hb dX7_uses_249 rfl (lv_at hl 0 rfl) ?_
                                        refine zg_MO_order hx hb hts hinX7 hown hf60 hK hG dX7_uses_250 ?_
                                        refine lv_iload hx hb dX7_uses_253 (lv_at hl 7 rfl) ?_
                                        refine zld_MX (n := x9) hx hb hK hG (by omega) hx9 dX7_uses_255 ?_
                                        refine zld_MY (n := (zs_fa T 3 ((zs_ln T v).take i) (zm_w4 T v)).1 x9) hx hb hK hG (by omega) (hlw x9 hx8) dX7_uses_256 ?_
                                        refine lv_iload hx hb dX7_uses_257 (lv_at hl 6 rfl) ?_
                                        refine zb_iconst (n := 1) hx hb dX7_uses_259 (by decide) ?_
                                        refine zb_isub hx hb (by omega) dX7_uses_260 ?_
                                        refine zb_icmp_ne (x := (zs_fa T 3 ((zs_ln T v).take i) (zm_w4 T v)).1 x9) (y := 2) (tgt := 282) hx hb (by omega) (by omega) dX7_uses_261 (by decide) (fun c_261 => ?_) (fun c_261 => ?_)
                                        · refine lv_iload hx hb dX7_uses_282 (lv_at hl 5 rfl) ?_
                                          refine lv_istore (lv' := [(5, .int (nI ((zs_fa T 3 ((zs_ln T v).take i) (zm_w4 T v)).2))), (0, .ref (ad 14 0)), (1, .int (nI v)), (2, .int (nI y_30)), (3, .int (za_enc (zm_f T v y_30))), (4, .int (nI ((zs_ln T v).length))), (6, .int (nI 3)), (7, .int (nI i))]) hx hb dX7_uses_284 hl (by decide) rfl (fun ls hl => ?_)
                                          refine zb_iinc (n := 1) (k := 7) (lv' := [(7, .int (nI (i + 1))), (5, .int (nI ((zs_fa T 3 ((zs_ln T v).take i) (zm_w4 T v)).2))), (0, .ref (ad 14 0)), (1, .int (nI v)), (2, .int (nI y_30)), (3, .int (za_enc (zm_f T v y_30))), (4, .int (nI ((zs_ln T v).length))), (6, .int (nI 3))]) hx hb dX7_uses_286 hl rfl (by decide) (by decide) rfl (fun ls hl => ?_)
                                          refine zb_goto (tgt := 238) hx hb dX7_uses_289 (by decide) ?_
                                          have e9 : zs_fa T 3 ((zs_ln T v).take (i + 1)) (zm_w4 T v) = zs_fa T 3 ((zs_ln T v).take i) (zm_w4 T v) := by
                                            rw [zs_fa_take T 3 (zs_ln T v) _ hi9, hgi9]
                                            exact if_neg (fun z => c_261 z.1)
                                          have hl : lv_has ls 8 [(7, .int (nI (i + 1))), (5, .int (nI ((zs_fa T 3 ((zs_ln T v).take (i + 1)) (zm_w4 T v)).2))), (0, .ref (ad 14 0)), (1, .int (nI v)), (2, .int (nI y_30)), (3, .int (za_enc (zm_f T v y_30))), (4, .int (nI ((zs_ln T v).length))), (6, .int (nI 3))] := by rw [e9]; exact hl
                                          exact ih238 Y1 (i + 1) (by omega) hor hfy (by rw [e9]; exact hlw) (by omega) _ _ hG hS ls (lv_sub hl [2, 3, 4, 5, 6, 1, 7, 0] rfl)
                                        · refine lv_aload_n hx hb dX7_uses_264 rfl (lv_at hl 0 rfl) ?_
                                          refine lv_aload_n hx hb dX7_uses_265 rfl (lv_at hl 0 rfl) ?_
                                          refine zg_MO_order hx hb hts hinX7 hown hf60 hK hG dX7_uses_266 ?_
                                          refine lv_iload hx hb dX7_uses_269 (lv_at hl 7 rfl) ?_
                                          refine zld_MX (n := x9) hx hb hK hG (by omega) hx9 dX7_uses_271 ?_
                                          refine lv_iload hx hb dX7_uses_272 (lv_at hl 6 rfl) ?_
                                          refine lv_iload hx hb dX7_uses_274 (lv_at hl 5 rfl) ?_
                                          refine zc_Vi (As := [.int (nI x9), .int (nI 3), .int (nI ((zs_fa T 3 ((zs_ln T v).take i) (zm_w4 T v)).2))]) (rest := []) hK hZ hb0 hG hS hx hb hml hown hts (c_X7_takes l x9 3 (zs_fa T 3 ((zs_ln T v).take i) (zm_w4 T v)) hx8 hlw (by decide) (by rw [c_261]; decide) (Nat.lt_of_le_of_lt hw2 (hBT 1 v 0)) hBT hfy.2) (cwV 3 hts gX7_uses_X7_takes rfl rfl rfl (by decide +kernel) ⟨Nat.le_of_ble_eq_true rfl, Nat.le_of_ble_eq_true rfl⟩) (za_recv (q := (RX7, TX7, 25)) hK hG 14 0 ⟨by omega, rfl⟩ rfl rfl rfl) rfl hl rfl (Nat.le_of_ble_eq_true rfl) dX7_uses_276 ⟨Nat.le_of_ble_eq_true rfl, Nat.le_of_ble_eq_true rfl⟩ (fun r_276 u_276 H locs hp hG hS => ?_)
                                          obtain ⟨Y2, rfl, rfl, q1, q2, q3⟩ := hp
                                          refine zb_goto (tgt := 284) hx hb dX7_uses_279 (by decide) ?_
                                          refine lv_istore (lv' := [(5, .int (nI ((zs_tm T 3 (zs_fa T 3 ((zs_ln T v).take i) (zm_w4 T v)) x9).2))), (0, .ref (ad 14 0)), (1, .int (nI v)), (2, .int (nI y_30)), (3, .int (za_enc (zm_f T v y_30))), (4, .int (nI ((zs_ln T v).length))), (6, .int (nI 3)), (7, .int (nI i))]) hx hb dX7_uses_284 hl (by decide) rfl (fun ls hl => ?_)
                                          refine zb_iinc (n := 1) (k := 7) (lv' := [(7, .int (nI (i + 1))), (5, .int (nI ((zs_tm T 3 (zs_fa T 3 ((zs_ln T v).take i) (zm_w4 T v)) x9).2))), (0, .ref (ad 14 0)), (1, .int (nI v)), (2, .int (nI y_30)), (3, .int (za_enc (zm_f T v y_30))), (4, .int (nI ((zs_ln T v).length))), (6, .int (nI 3))]) hx hb dX7_uses_286 hl rfl (by decide) (by decide) rfl (fun ls hl => ?_)
                                          refine zb_goto (tgt := 238) hx hb dX7_uses_289 (by decide) ?_
                                          have e9 : zs_tm T 3 (zs_fa T 3 ((zs_ln T v).take i) (zm_w4 T v)) x9 = zs_fa T 3 ((zs_ln T v).take (i + 1)) (zm_w4 T v) := by
                                            rw [zs_fa_take T 3 (zs_ln T v) _ hi9, hgi9]
                                            exact zs_tm_k c_261
                                          rw [e9] at hl q1
                                          exact ih238 Y2 (i + 1) (by omega) (zm_or_n hor q2) ⟨q3.1.trans hfy.1, q3.2⟩ q1 (by omega) _ _ hG hS ls (lv_sub hl [2, 3, 4, 5, 6, 1, 7, 0] rfl)
                                  exact loop238 (_ + 1) Y1 0 (Nat.zero_le _) hor hfy hlw (Nat.lt_succ_self _) _ _ hG hS ls (lv_sub hl [2, 3, 4, 5, 6, 7, 1, 0] rfl)
                                · have hL9 : zs_ln T v ≠ [] := fun q => by rw [q] at c_242; exact absurd c_242 (Nat.not_lt_zero _)
                                  obtain ⟨x9, hx9⟩ : ∃ x, Y1.1 1 i 0 = x := ⟨_, rfl⟩
                                  have hg9 := hor i c_242
                                  rw [hx9] at hg9
                                  obtain ⟨hi9, hgi9⟩ := List.getElem?_eq_some_iff.mp hg9
                                  have hx8 := (hLn x9 (List.mem_of_getElem? hg9))
                                  have hw9 := hwl x9
                                  refine lv_aload_n hx hb dX7_uses_245 rfl (lv_at hl 0 rfl) ?_
                                  refine zg_MO_layers hx hb hts hinX7 hown hf63 hK hG dX7_uses_246 ?_
                                  refine lv_aload_n hx hb dX7_uses_249 rfl (lv_at hl 0 rfl) ?_
                                  refine zg_MO_order hx hb hts hinX7 hown hf60 hK hG dX7_uses_250 ?_
                                  refine lv_iload hx hb dX7_uses_253 (lv_at hl 7 rfl) ?_
                                  refine zld_MX (n := x9) hx hb hK hG (by omega) hx9 dX7_uses_255 ?_
                                  refine zld_MY (n := (zs_fa T 2 ((zs_ln T v).take i) (zm_w3 T v)).1 x9) hx hb hK hG (by omega) (hlw x9 hx8) dX7_uses_256 ?_
                                  refine lv_iload hx hb dX7_uses_257 (lv_at hl 6 rfl) ?_
                                  refine zb_iconst (n := 1) hx hb dX7_uses_259 (by decide) ?_
                                  refine zb_isub hx hb (by omega) dX7_uses_260 ?_
                                  refine zb_icmp_ne (x := (zs_fa T 2 ((zs_ln T v).take i) (zm_w3 T v)).1 x9) (y := 1) (tgt := 282) hx hb (by omega) (by omega) dX7_uses_261 (by decide) (fun c_261 => ?_) (fun c_261 => ?_)
                                  · refine lv_iload hx hb dX7_uses_282 (lv_at hl 5 rfl) ?_
                                    refine lv_istore (lv' := [(5, .int (nI ((zs_fa T 2 ((zs_ln T v).take i) (zm_w3 T v)).2))), (0, .ref (ad 14 0)), (1, .int (nI v)), (2, .int (nI y_30)), (3, .int (za_enc (zm_f T v y_30))), (4, .int (nI ((zs_ln T v).length))), (6, .int (nI 2)), (7, .int (nI i))]) hx hb dX7_uses_284 hl (by decide) rfl (fun ls hl => ?_)
                                    refine zb_iinc (n := 1) (k := 7) (lv' := [(7, .int (nI (i + 1))), (5, .int (nI ((zs_fa T 2 ((zs_ln T v).take i) (zm_w3 T v)).2))), (0, .ref (ad 14 0)), (1, .int (nI v)), (2, .int (nI y_30)), (3, .int (za_enc (zm_f T v y_30))), (4, .int (nI ((zs_ln T v).length))), (6, .int (nI 2))]) hx hb dX7_uses_286 hl rfl (by decide) (by decide) rfl (fun ls hl => ?_)
                                    refine zb_goto (tgt := 238) hx hb dX7_uses_289 (by decide) ?_
                                    have e9 : zs_fa T 2 ((zs_ln T v).take (i + 1)) (zm_w3 T v) = zs_fa T 2 ((zs_ln T v).take i) (zm_w3 T v) := by
                                      rw [zs_fa_take T 2 (zs_ln T v) _ hi9, hgi9]
                                      exact if_neg (fun z => c_261 z.1)
                                    have hl : lv_has ls 8 [(7, .int (nI (i + 1))), (5, .int (nI ((zs_fa T 2 ((zs_ln T v).take (i + 1)) (zm_w3 T v)).2))), (0, .ref (ad 14 0)), (1, .int (nI v)), (2, .int (nI y_30)), (3, .int (za_enc (zm_f T v y_30))), (4, .int (nI ((zs_ln T v).length))), (6, .int (nI 2))] := by rw [e9]; exact hl
                                    exact ih238 Y1 (i + 1) (by omega) hor hfy (by rw [e9]; exact hlw) (by omega) _ _ hG hS ls (lv_sub hl [2, 3, 4, 5, 6, 1, 7, 0] rfl)
                                  · refine lv_aload_n hx hb dX7_uses_264 rfl (lv_at hl 0 rfl) ?_
                                    refine lv_aload_n hx hb dX7_uses_265 rfl (lv_at hl 0 rfl) ?_
                                    refine zg_MO_order hx hb hts hinX7 hown hf60 hK hG dX7_uses_266 ?_
                                    refine lv_iload hx hb dX7_uses_269 (lv_at hl 7 rfl) ?_
                                    refine zld_MX (n := x9) hx hb hK hG (by omega) hx9 dX7_uses_271 ?_
                                    refine lv_iload hx hb dX7_uses_272 (lv_at hl 6 rfl) ?_
                                    refine lv_iload hx hb dX7_uses_274 (lv_at hl 5 rfl) ?_
                                    refine zc_Vi (As := [.int (nI x9), .int (nI 2), .int (nI ((zs_fa T 2 ((zs_ln T v).take i) (zm_w3 T v)).2))]) (rest := []) hK hZ hb0 hG hS hx hb hml hown hts (c_X7_takes l x9 2 (zs_fa T 2 ((zs_ln T v).take i) (zm_w3 T v)) hx8 hlw (by decide) (by rw [c_261]; decide) (Nat.lt_of_le_of_lt hw2 (hBT 1 v 0)) hBT hfy.2) (cwV 3 hts gX7_uses_X7_takes rfl rfl rfl (by decide +kernel) ⟨Nat.le_of_ble_eq_true rfl, Nat.le_of_ble_eq_true rfl⟩) (za_recv (q := (RX7, TX7, 25)) hK hG 14 0 ⟨by omega, rfl⟩ rfl rfl rfl) rfl hl rfl (Nat.le_of_ble_eq_true rfl) dX7_uses_276 ⟨Nat.le_of_ble_eq_true rfl, Nat.le_of_ble_eq_true rfl⟩ (fun r_276 u_276 H locs hp hG hS => ?_)
                                    obtain ⟨Y2, rfl, rfl, q1, q2, q3⟩ := hp
                                    refine zb_goto (tgt := 284) hx hb dX7_uses_279 (by decide) ?_
                                    refine lv_istore (lv' := [(5, .int (nI ((zs_tm T 2 (zs_fa T 2 ((zs_ln T v).take i) (zm_w3 T v)) x9).2))), (0, .ref (ad 14 0)), (1, .int (nI v)), (2, .int (nI y_30)), (3, .int (za_enc (zm_f T v y_30))), (4, .int (nI ((zs_ln T v).length))), (6, .int (nI 2)), (7, .int (nI i))]) hx hb dX7_uses_284 hl (by decide) rfl (fun ls hl => ?_)
                                    refine zb_iinc (n := 1) (k := 7) (lv' := [(7, .int (nI (i + 1))), (5, .int (nI ((zs_tm T 2 (zs_fa T 2 ((zs_ln T v).take i) (zm_w3 T v)) x9).2))), (0, .ref (ad 14 0)), (1, .int (nI v)), (2, .int (nI y_30)), (3, .int (za_enc (zm_f T v y_30))), (4, .int (nI ((zs_ln T v).length))), (6, .int (nI 2))]) hx hb dX7_uses_286 hl rfl (by decide) (by decide) rfl (fun ls hl => ?_)
                                    refine zb_goto (tgt := 238) hx hb dX7_uses_289 (by decide) ?_
                                    have e9 : zs_tm T 2 (zs_fa T 2 ((zs_ln T v).take i) (zm_w3 T v)) x9 = zs_fa T 2 ((zs_ln T v).take (i + 1)) (zm_w3 T v) := by
                                      rw [zs_fa_take T 2 (zs_ln T v) _ hi9, hgi9]
                                      exact zs_tm_k c_261
                                    rw [e9] at hl q1
                                    exact ih238 Y2 (i + 1) (by omega) (zm_or_n hor q2) ⟨q3.1.trans hfy.1, q3.2⟩ q1 (by omega) _ _ hG hS ls (lv_sub hl [2, 3, 4, 5, 6, 1, 7, 0] rfl)
                            exact loop238 (_ + 1) Y1 0 (Nat.zero_le _) hor hfy hlw (Nat.lt_succ_self _) _ _ hG hS ls (lv_sub hl [2, 3, 4, 5, 6, 7, 1, 0] rfl)
                          refine lv_iload hx hb dX7_uses_191 (lv_at hl 4 rfl) ?_
                          refine zb_if_le (x := (zs_ln T v).length) (tgt := 226) hx hb (by omega) dX7_uses_193 (by decide) (fun c_193 => ?_) (fun c_193 => ?_)
                          · have hw3 : zm_w3 T v = zm_w1 T v := by unfold zm_w3 zm_w2; rw [zm_hd0 _ c_193, zm_hd0 _ c_193]
                            have hl : lv_has ls 8 [(0, .ref (ad 14 0)), (1, .int (nI v)), (2, .int (nI y_30)), (3, .int (za_enc (zm_f T v y_30))), (4, .int (nI ((zs_ln T v).length))), (5, .int (nI ((zm_w3 T v).2)))] := by rw [hw3]; exact hl
                            exact gcut226 Y1 _ _ hor hfy (by rw [hw3]; exact hlw) hG hS ls (lv_sub hl [0, 1, 2, 3, 4, 5] rfl)
                          · obtain ⟨x9, hx9⟩ : ∃ x, Y1.1 1 0 0 = x := ⟨_, rfl⟩
                            have hg9 := hor 0 c_193
                            rw [hx9] at hg9
                            have hx8 := hLn x9 (List.mem_of_getElem? hg9)
                            refine lv_aload_n hx hb dX7_uses_196 rfl (lv_at hl 0 rfl) ?_
                            refine lv_aload_n hx hb dX7_uses_197 rfl (lv_at hl 0 rfl) ?_
                            refine zg_MO_order hx hb hts hinX7 hown hf60 hK hG dX7_uses_198 ?_
                            refine zb_iconst (n := 0) hx hb dX7_uses_201 (by decide) ?_
                            refine zld_MX (n := x9) hx hb hK hG (by omega) hx9 dX7_uses_202 ?_
                            refine zb_iconst (n := 2) hx hb dX7_uses_203 (by decide) ?_
                            refine lv_iload hx hb dX7_uses_204 (lv_at hl 5 rfl) ?_
                            refine zc_Vi (As := [.int (nI x9), .int (nI 2), .int (nI ((zm_w1 T v).2))]) (rest := []) hK hZ hb0 hG hS hx hb hml hown hts (c_X7_takes l x9 2 (zm_w1 T v) hx8 hlw (by decide) (Nat.le_trans (hw1l x9) (by decide)) (Nat.lt_of_le_of_lt hw1b (hBT 1 v 0)) hBT hfy.2) (cwV 3 hts gX7_uses_X7_takes rfl rfl rfl (by decide +kernel) ⟨Nat.le_of_ble_eq_true rfl, Nat.le_of_ble_eq_true rfl⟩) (za_recv (q := (RX7, TX7, 25)) hK hG 14 0 ⟨by omega, rfl⟩ rfl rfl rfl) rfl hl rfl (Nat.le_of_ble_eq_true rfl) dX7_uses_206 ⟨Nat.le_of_ble_eq_true rfl, Nat.le_of_ble_eq_true rfl⟩ (fun r_206 u_206 H locs hp hG hS => ?_)
                            obtain ⟨Y2, rfl, rfl, q1, q2, q3⟩ := hp
                            have e9 := zm_t2 hg9
                            rw [e9] at q1 ⊢
                            refine lv_istore (lv' := [(5, .int (nI ((zm_w2 T v).2))), (0, .ref (ad 14 0)), (1, .int (nI v)), (2, .int (nI y_30)), (3, .int (za_enc (zm_f T v y_30))), (4, .int (nI ((zs_ln T v).length)))]) hx hb dX7_uses_209 hl (by decide) rfl (fun ls hl => ?_)
                            refine lv_aload_n hx hb dX7_uses_211 rfl (lv_at hl 1 rfl) ?_
                            refine lv_aload_n hx hb dX7_uses_212 rfl (lv_at hl 1 rfl) ?_
                            refine zg_MO_order hx hb hts hinX7 hown hf60 hK hG dX7_uses_213 ?_
                            refine zb_iconst (n := 0) hx hb dX7_uses_216 (by decide) ?_
                            refine zld_MX (n := x9) hx hb hK hG (by omega) ((q2 0).trans hx9) dX7_uses_217 ?_
                            refine zb_iconst (n := 3) hx hb dX7_uses_218 (by decide) ?_
                            refine lv_iload hx hb dX7_uses_219 (lv_at hl 0 rfl) ?_
                            refine zc_Vi (As := [.int (nI x9), .int (nI 3), .int (nI ((zm_w2 T v).2))]) (rest := []) hK hZ hb0 hG hS hx hb hml hown hts (c_X7_takes l x9 3 (zm_w2 T v) hx8 q1 (by decide) (Nat.le_trans (hw2l x9) (by decide)) (Nat.lt_of_le_of_lt hw2b (hBT 1 v 0)) hBT q3.2) (cwV 3 hts gX7_uses_X7_takes rfl rfl rfl (by decide +kernel) ⟨Nat.le_of_ble_eq_true rfl, Nat.le_of_ble_eq_true rfl⟩) (za_recv (q := (RX7, TX7, 25)) hK hG 14 0 ⟨by omega, rfl⟩ rfl rfl rfl) rfl hl rfl (Nat.le_of_ble_eq_true rfl) dX7_uses_221 ⟨Nat.le_of_ble_eq_true rfl, Nat.le_of_ble_eq_true rfl⟩ (fun r_221 u_221 H locs hp hG hS => ?_)
                            obtain ⟨Y3, rfl, rfl, p1, p2, p3⟩ := hp
                            have e8 := zm_t3 hg9
                            rw [e8] at p1 ⊢
                            refine lv_istore (lv' := [(5, .int (nI ((zm_w3 T v).2))), (0, .ref (ad 14 0)), (1, .int (nI v)), (2, .int (nI y_30)), (3, .int (za_enc (zm_f T v y_30))), (4, .int (nI ((zs_ln T v).length)))]) hx hb dX7_uses_224 hl (by decide) rfl (fun ls hl => ?_)
                            exact gcut226 Y3 _ _ (zm_or_n (zm_or_n hor q2) p2) ⟨p3.1.trans (q3.1.trans hfy.1), p3.2⟩ p1 hG hS ls (lv_sub hl [1, 2, 3, 4, 5, 0] rfl)
                        · have hL9 : zs_ln T v ≠ [] := fun q => by rw [q] at c_166; exact absurd c_166 (Nat.not_lt_zero _)
                          obtain ⟨x9, hx9⟩ : ∃ x, Y1.1 1 i 0 = x := ⟨_, rfl⟩
                          have hg9 := hor i c_166
                          rw [hx9] at hg9
                          obtain ⟨hi9, hgi9⟩ := List.getElem?_eq_some_iff.mp hg9
                          have hx8 := (hLn x9 (List.mem_of_getElem? hg9))
                          have hw9 := hwl x9
                          refine lv_aload_n hx hb dX7_uses_169 rfl (lv_at hl 0 rfl) ?_
                          refine lv_aload_n hx hb dX7_uses_170 rfl (lv_at hl 0 rfl) ?_
                          refine zg_MO_order hx hb hts hinX7 hown hf60 hK hG dX7_uses_171 ?_
                          refine lv_iload hx hb dX7_uses_174 (lv_at hl 6 rfl) ?_
                          refine zld_MX (n := x9) hx hb hK hG (by omega) hx9 dX7_uses_176 ?_
                          refine zb_iconst (n := 1) hx hb dX7_uses_177 (by decide) ?_
                          refine lv_iload hx hb dX7_uses_178 (lv_at hl 5 rfl) ?_
                          refine zc_Vi (As := [.int (nI x9), .int (nI 1), .int (nI ((zs_fa T 1 ((zs_ln T v).take i) (zm_w0 T v)).2))]) (rest := []) hK hZ hb0 hG hS hx hb hml hown hts (c_X7_takes l x9 1 (zs_fa T 1 ((zs_ln T v).take i) (zm_w0 T v)) hx8 hlw (by decide) (hwl x9) (Nat.lt_of_le_of_lt hw2 (hBT 1 v 0)) hBT hfy.2) (cwV 3 hts gX7_uses_X7_takes rfl rfl rfl (by decide +kernel) ⟨Nat.le_of_ble_eq_true rfl, Nat.le_of_ble_eq_true rfl⟩) (za_recv (q := (RX7, TX7, 25)) hK hG 14 0 ⟨by omega, rfl⟩ rfl rfl rfl) rfl hl rfl (Nat.le_of_ble_eq_true rfl) dX7_uses_180 ⟨Nat.le_of_ble_eq_true rfl, Nat.le_of_ble_eq_true rfl⟩ (fun r_180 u_180 H locs hp hG hS => ?_)
                          obtain ⟨Y2, rfl, rfl, q1, q2, q3⟩ := hp
                          refine lv_istore (lv' := [(5, .int (nI ((zs_tm T 1 (zs_fa T 1 ((zs_ln T v).take i) (zm_w0 T v)) x9).2))), (0, .ref (ad 14 0)), (1, .int (nI v)), (2, .int (nI y_30)), (3, .int (za_enc (zm_f T v y_30))), (4, .int (nI ((zs_ln T v).length))), (6, .int (nI i))]) hx hb dX7_uses_183 hl (by decide) rfl (fun ls hl => ?_)
                          refine zb_iinc (n := 1) (k := 6) (lv' := [(6, .int (nI (i + 1))), (5, .int (nI ((zs_tm T 1 (zs_fa T 1 ((zs_ln T v).take i) (zm_w0 T v)) x9).2))), (0, .ref (ad 14 0)), (1, .int (nI v)), (2, .int (nI y_30)), (3, .int (za_enc (zm_f T v y_30))), (4, .int (nI ((zs_ln T v).length)))]) hx hb dX7_uses_185 hl rfl (by decide) (by decide) rfl (fun ls hl => ?_)
                          refine zb_goto (tgt := 162) hx hb dX7_uses_188 (by decide) ?_
                          have e9 : zs_tm T 1 (zs_fa T 1 ((zs_ln T v).take i) (zm_w0 T v)) x9 = zs_fa T 1 ((zs_ln T v).take (i + 1)) (zm_w0 T v) := by
                            rw [zs_fa_take T 1 (zs_ln T v) _ hi9, hgi9]
                            rcases (show (zs_fa T 1 ((zs_ln T v).take i) (zm_w0 T v)).1 x9 = 0 ∨ (zs_fa T 1 ((zs_ln T v).take i) (zm_w0 T v)).1 x9 = 1 by have := hwl x9; omega) with z | z
                            · exact zs_tm_k z
                            · exact zs_tm_s z (by decide)
                          rw [e9] at hl q1
                          exact ih162 Y2 (i + 1) (by omega) (zm_or_n hor q2) ⟨q3.1.trans hfy.1, q3.2⟩ q1 (by omega) _ _ hG hS ls (lv_sub hl [2, 3, 4, 5, 6, 1, 0] rfl)
                    exact loop162 (_ + 1) Y1 0 (Nat.zero_le _) hor hfy hz1 (Nat.lt_succ_self _) _ _ hG hS ls (lv_sub hl [2, 3, 4, 5, 6, 1, 0] rfl)
                  · obtain ⟨x9, hx10, hx9, -⟩ := hI.oc (r := y_30) (j := k) c_104
                    refine lv_aload_n hx hb dX7_uses_107 rfl (lv_at hl 0 rfl) ?_
                    refine zg_MO_who hx hb hts hinX7 hown hf32 hK hG dX7_uses_108 ?_
                    refine zb_bipush (n := 10) hx hb dX7_uses_111 (by decide) ?_
                    refine lv_iload_n hx hb dX7_uses_113 rfl (lv_at hl 2 rfl) ?_
                    refine zb_imul hx hb dX7_uses_114 ?_
                    refine lv_iload hx hb dX7_uses_115 (lv_at hl 5 rfl) ?_
                    refine zb_iadd hx hb dX7_uses_117 ?_
                    refine zld_MW hx hb hK hG (by omega) (zs_wh rfl (by omega) hx9) dX7_uses_118 ?_
                    refine lv_istore (lv' := [(6, .int (nI x9)), (0, .ref (ad 14 0)), (1, .int (nI v)), (2, .int (nI y_30)), (3, .int (za_enc (zm_f T v y_30))), (4, .int (nI ((zs_rest T v y_30 k).length))), (5, .int (nI k))]) hx hb dX7_uses_119 hl (by decide) rfl (fun ls hl => ?_)
                    refine lv_iload hx hb dX7_uses_121 (lv_at hl 0 rfl) ?_
                    refine lv_iload_n hx hb dX7_uses_123 rfl (lv_at hl 2 rfl) ?_
                    refine zb_icmp_eq (x := x9) (y := v) (tgt := 145) hx hb (by omega) (by omega) dX7_uses_124 (by decide) (fun c_124 => ?_) (fun c_124 => ?_)
                    · refine zb_iinc (n := 1) (k := 6) (lv' := [(5, .int (nI (k + 1))), (6, .int (nI x9)), (0, .ref (ad 14 0)), (1, .int (nI v)), (2, .int (nI y_30)), (3, .int (za_enc (zm_f T v y_30))), (4, .int (nI ((zs_rest T v y_30 k).length)))]) hx hb dX7_uses_145 hl rfl (by decide) (by decide) rfl (fun ls hl => ?_)
                      refine zb_goto (tgt := 96) hx hb dX7_uses_148 (by decide) ?_
                      have er : zs_rest T v y_30 (k + 1) = zs_rest T v y_30 k := by rw [zm_rs hx9]; first | exact if_pos (Or.inl c_124) | exact if_pos (Or.inr c_130.symm)
                      have hl : lv_has ls 8 [(5, .int (nI (k + 1))), (6, .int (nI x9)), (0, .ref (ad 14 0)), (1, .int (nI v)), (2, .int (nI y_30)), (3, .int (za_enc (zm_f T v y_30))), (4, .int (nI ((zs_rest T v y_30 (k + 1)).length)))] := by rw [er]; exact hl
                      exact ih96 Y1 (k + 1) (by omega) (by rw [er]; exact hor) hfy hz1 (by omega) _ _ hG hS ls (lv_sub hl [2, 3, 4, 5, 6, 0] rfl)
                    · refine lv_iload hx hb dX7_uses_127 (lv_at hl 0 rfl) ?_
                      refine lv_iload_n hx hb dX7_uses_129 rfl (lv_at hl 4 rfl) ?_
                      refine zb_ecmp_eq (tgt := 145) hx hb (some x9) (zm_f T v y_30) (by rintro _ ⟨⟩; omega) (fun x h => by have := hVv.2.2.2.1 _ _ hy_30 (zm_f_1 h); omega) dX7_uses_130 (by decide) (fun c_130 => ?_) (fun c_130 => ?_)
                      · refine zb_iinc (n := 1) (k := 6) (lv' := [(5, .int (nI (k + 1))), (6, .int (nI x9)), (0, .ref (ad 14 0)), (1, .int (nI v)), (2, .int (nI y_30)), (3, .int (za_enc (zm_f T v y_30))), (4, .int (nI ((zs_rest T v y_30 k).length)))]) hx hb dX7_uses_145 hl rfl (by decide) (by decide) rfl (fun ls hl => ?_)
                        refine zb_goto (tgt := 96) hx hb dX7_uses_148 (by decide) ?_
                        have er : zs_rest T v y_30 (k + 1) = zs_rest T v y_30 k := by rw [zm_rs hx9]; first | exact if_pos (Or.inl c_124) | exact if_pos (Or.inr c_130.symm)
                        have hl : lv_has ls 8 [(5, .int (nI (k + 1))), (6, .int (nI x9)), (0, .ref (ad 14 0)), (1, .int (nI v)), (2, .int (nI y_30)), (3, .int (za_enc (zm_f T v y_30))), (4, .int (nI ((zs_rest T v y_30 (k + 1)).length)))] := by rw [er]; exact hl
                        exact ih96 Y1 (k + 1) (by omega) (by rw [er]; exact hor) hfy hz1 (by omega) _ _ hG hS ls (lv_sub hl [2, 3, 4, 5, 6, 0] rfl)
                      · refine lv_aload_n hx hb dX7_uses_133 rfl (lv_at hl 1 rfl) ?_
                        refine zg_MO_order hx hb hts hinX7 hown hf60 hK hG dX7_uses_134 ?_
                        refine lv_iload hx hb dX7_uses_137 (lv_at hl 5 rfl) ?_
                        refine lv_iload hx hb dX7_uses_139 (lv_at hl 0 rfl) ?_
                        refine zst_MX hx hb hK hG hS (by omega) dX7_uses_141 (fun H locs hG hS => ?_)
                        refine zb_iinc (n := 1) (k := 5) (lv' := [(4, .int (nI (((zs_rest T v y_30 k).length) + 1))), (6, .int (nI x9)), (0, .ref (ad 14 0)), (1, .int (nI v)), (2, .int (nI y_30)), (3, .int (za_enc (zm_f T v y_30))), (5, .int (nI k))]) hx hb dX7_uses_142 hl rfl (by decide) (by decide) rfl (fun ls hl => ?_)
                        refine zb_iinc (n := 1) (k := 6) (lv' := [(5, .int (nI (k + 1))), (4, .int (nI (((zs_rest T v y_30 k).length) + 1))), (6, .int (nI x9)), (0, .ref (ad 14 0)), (1, .int (nI v)), (2, .int (nI y_30)), (3, .int (za_enc (zm_f T v y_30)))]) hx hb dX7_uses_145 hl rfl (by decide) (by decide) rfl (fun ls hl => ?_)
                        refine zb_goto (tgt := 96) hx hb dX7_uses_148 (by decide) ?_
                        have er : zs_rest T v y_30 (k + 1) = zs_rest T v y_30 k ++ [x9] := by rw [zm_rs hx9, if_neg (by rintro (z | z); exact c_124 z; exact c_130 z.symm)]
                        have hl : lv_has ls 8 [(5, .int (nI (k + 1))), (4, .int (nI ((zs_rest T v y_30 (k + 1)).length))), (6, .int (nI x9)), (0, .ref (ad 14 0)), (1, .int (nI v)), (2, .int (nI y_30)), (3, .int (za_enc (zm_f T v y_30)))] := by rw [er, List.length_append]; exact hl
                        exact ih96 (za_N Y1 1 (zs_rest T v y_30 k).length 0 x9) (k + 1) (by omega) (by rw [er]; exact zm_or_s hor x9) ⟨hfy.1, zs_N_B hfy.2 (by omega)⟩ hz1 (by omega) _ _ hG hS ls (lv_sub hl [3, 4, 5, 6, 1, 0] rfl)
              exact loop96 (_ + 1) Y1 0 (Nat.zero_le _) hor hfy hz1 (Nat.lt_succ_self _) _ _ hG hS ls (lv_sub hl [1, 2, 3, 4, 5, 0] rfl)
            refine zb_iconst (n := 0) hx hb dX7_uses_75 (by decide) ?_
            refine lv_istore (lv' := [(4, .int (nI 0)), (3, .int (za_enc (zm_f T v y_30))), (0, .ref (ad 14 0)), (1, .int (nI v)), (2, .int (nI y_30))]) hx hb dX7_uses_76 hl (by decide) rfl (fun ls hl => ?_)
            refine lv_iload_n hx hb dX7_uses_78 rfl (lv_at hl 1 rfl) ?_
            refine zb_iconstm hx hb dX7_uses_79 ?_
            refine zb_ecmp_eq (tgt := 93) hx hb (zm_f T v y_30) none (fun x h => by have := hVv.2.2.2.1 _ _ hy_30 (zm_f_1 h); omega) (by rintro _ ⟨⟩) dX7_uses_80 (by decide) (fun c_80 => ?_) (fun c_80 => ?_)
            · skip
              rw [c_80] at hl
              have hl : lv_has ls 8 [(4, .int (nI 0)), (3, .int (za_enc none)), (0, .ref (ad 14 0)), (1, .int (nI v)), (2, .int (nI y_30))] := hl
              have er : zs_rest T v y_30 0 = [] := by rw [zm_r0 (fun q h => (hI.pi hv h).2), c_80]
              have hl : lv_has ls 8 [(4, .int (nI ((zs_rest T v y_30 0).length))), (3, .int (za_enc (zm_f T v y_30))), (0, .ref (ad 14 0)), (1, .int (nI v)), (2, .int (nI y_30))] := by rw [c_80, er]; exact hl
              exact gcut93 Y1 _ _ (by rw [er]; exact zm_or_0 _) hfy hz1 hG hS ls (lv_sub hl [2, 3, 4, 1, 0] rfl)
            · obtain ⟨y_80, hy_80⟩ := Option.ne_none_iff_exists'.mp c_80
              have hf10 : y_80 < 10 := by have := hVv.2.2.2.1 _ _ hy_30 (zm_f_1 hy_80); omega
              rw [hy_80] at hl
              have hl : lv_has ls 8 [(4, .int (nI 0)), (3, .int (nI y_80)), (0, .ref (ad 14 0)), (1, .int (nI v)), (2, .int (nI y_30))] := hl
              refine lv_aload_n hx hb dX7_uses_83 rfl (lv_at hl 2 rfl) ?_
              refine zg_MO_order hx hb hts hinX7 hown hf60 hK hG dX7_uses_84 ?_
              refine zb_iconst (n := 0) hx hb dX7_uses_87 (by decide) ?_
              refine lv_iload_n hx hb dX7_uses_88 rfl (lv_at hl 1 rfl) ?_
              refine zst_MX hx hb hK hG hS (by omega) dX7_uses_89 (fun H locs hG hS => ?_)
              refine zb_iconst (n := 1) hx hb dX7_uses_90 (by decide) ?_
              refine lv_istore (lv' := [(4, .int (nI 1)), (3, .int (nI y_80)), (0, .ref (ad 14 0)), (1, .int (nI v)), (2, .int (nI y_30))]) hx hb dX7_uses_91 hl (by decide) rfl (fun ls hl => ?_)
              have er : zs_rest T v y_30 0 = [y_80] := by rw [zm_r0 (fun q h => (hI.pi hv h).2), hy_80]
              have hl : lv_has ls 8 [(4, .int (nI ((zs_rest T v y_30 0).length))), (3, .int (za_enc (zm_f T v y_30))), (0, .ref (ad 14 0)), (1, .int (nI v)), (2, .int (nI y_30))] := by rw [hy_80, er]; exact hl
              exact gcut93 (za_N Y1 1 0 0 y_80) _ _ (by rw [er]; exact zm_or_1 _ _) ⟨hfy.1, zs_N_B hfy.2 (by omega)⟩ hz1 hG hS ls (lv_sub hl [2, 3, 4, 1, 0] rfl)
          refine lv_aload_n hx hb dX7_uses_35 rfl (lv_at hl 1 rfl) ?_
          refine zg_MO_pins hx hb hts hinX7 hown hf22 hK hG dX7_uses_36 ?_
          refine lv_iload_n hx hb dX7_uses_39 rfl (lv_at hl 2 rfl) ?_
          refine zld_MP (r := T.2 1 v 0) hx hb hK hG (by omega) rfl dX7_uses_40 ?_
          refine zb_iconstm hx hb dX7_uses_41 ?_
          refine zb_ecmp_eq (tgt := 54) hx hb (T.2 1 v 0) none (fun x h => by have := (hI.pi hv h).1; omega) (by rintro _ ⟨⟩) dX7_uses_42 (by decide) (fun c_42 => ?_) (fun c_42 => ?_)
          · skip
            refine lv_aload_n hx hb dX7_uses_54 rfl (lv_at hl 1 rfl) ?_
            refine zg_MO_speakers hx hb hts hinX7 hown hf35 hK hG dX7_uses_55 ?_
            refine lv_iload_n hx hb dX7_uses_58 rfl (lv_at hl 0 rfl) ?_
            refine zld_MK (r := T.2 3 y_30 0) hx hb hK hG (by omega) rfl dX7_uses_59 ?_
            refine lv_iload_n hx hb dX7_uses_60 rfl (lv_at hl 2 rfl) ?_
            refine zb_ecmp_ne (tgt := 68) hx hb (T.2 3 y_30 0) (some v) (fun x h => by have := (hI.sp (hI.ro hv hy_30) h).1; omega) (by rintro _ ⟨⟩; omega) dX7_uses_61 (by decide) (fun c_61 => ?_) (fun c_61 => ?_)
            · refine lv_aload_n hx hb dX7_uses_68 rfl (lv_at hl 1 rfl) ?_
              refine zg_MO_speakers hx hb hts hinX7 hown hf35 hK hG dX7_uses_69 ?_
              refine lv_iload_n hx hb dX7_uses_72 rfl (lv_at hl 0 rfl) ?_
              refine zld_MK (r := T.2 3 y_30 0) hx hb hK hG (by omega) rfl dX7_uses_73 ?_
              have e74 : zm_f T v y_30 = T.2 3 y_30 0 := zm_f_n c_42 c_61
              refine W.eq (g2 := F0 m 74 ls [.int (za_enc (zm_f T v y_30))]) (by first | (rw [e74]; done) | (rw [e74]; rfl)) ?_
              exact gcut74 Y1 _ _ hfy hz1 hG hS ls (lv_sub hl [1, 2, 0] rfl)
            · refine zb_iconstm hx hb dX7_uses_64 ?_
              refine zb_goto (tgt := 74) hx hb dX7_uses_65 (by decide) ?_
              have e74 : zm_f T v y_30 = none := zm_f_v c_42 c_61
              refine W.eq (g2 := F0 m 74 ls [.int (za_enc (zm_f T v y_30))]) (by first | (rw [e74]; done) | (rw [e74]; rfl)) ?_
              exact gcut74 Y1 _ _ hfy hz1 hG hS ls (lv_sub hl [1, 2, 0] rfl)
          · obtain ⟨y_42, hy_42⟩ := Option.ne_none_iff_exists'.mp c_42
            have hq10 : y_42 < 10 := by have := (hI.pi hv hy_42).1; omega
            refine lv_aload_n hx hb dX7_uses_45 rfl (lv_at hl 1 rfl) ?_
            refine zg_MO_pins hx hb hts hinX7 hown hf22 hK hG dX7_uses_46 ?_
            refine lv_iload_n hx hb dX7_uses_49 rfl (lv_at hl 2 rfl) ?_
            refine zld_MP (r := some y_42) hx hb hK hG (by omega) hy_42 dX7_uses_50 ?_
            refine zb_goto (tgt := 74) hx hb dX7_uses_51 (by decide) ?_
            have e74 : zm_f T v y_30 = some y_42 := zm_f_p hy_42
            refine W.eq (g2 := F0 m 74 ls [.int (za_enc (zm_f T v y_30))]) (by first | (rw [e74]; done) | (rw [e74]; rfl)) ?_
            exact gcut74 Y1 _ _ hfy hz1 hG hS ls (lv_sub hl [1, 2, 0] rfl)
        · skip
          rw [c_30] at hl
          have hl : lv_has ls 8 [(2, .int (za_enc none)), (0, .ref (ad 14 0)), (1, .int (nI v))] := hl
          refine zb_iconst (n := 0) hx hb dX7_uses_33 (by decide) ?_
          exact zm_iret hx hb hr hlocks hG hS (by omega) (by omega) ⟨by rw [(zs_us_n c_30).1], Y1, rfl, hfy, fun p hp => by rw [hz1 p hp, (zs_us_n c_30).2]⟩ dX7_uses_34
      · refine lv_aload_n hx hb dX7_uses_8 rfl (lv_at hl 0 rfl) ?_
        refine zg_MO_layers hx hb hts hinX7 hown hf63 hK hG dX7_uses_9 ?_
        refine lv_iload_n hx hb dX7_uses_12 rfl (lv_at hl 2 rfl) ?_
        refine zb_iconst (n := 0) hx hb dX7_uses_13 (by decide) ?_
        refine zst_MY hx hb hK hG hS (by omega) dX7_uses_14 (fun H locs hG hS => ?_)
        refine zb_iinc (n := 1) (k := 2) (lv' := [(2, .int (nI (i + 1))), (0, .ref (ad 14 0)), (1, .int (nI v))]) hx hb dX7_uses_15 hl rfl (by decide) (by decide) rfl (fun ls hl => ?_)
        refine zb_goto (tgt := 2) hx hb dX7_uses_18 (by decide) ?_
        exact ih2 (za_N Y1 2 i 0 0) (i + 1) (by omega) ⟨hfy.1, zs_N_B hfy.2 (by decide)⟩ (fun q hq => by
              show (if _ then _ else _) = 0
              split
              next => rfl
              next z => exact hz1 q (by omega)) (by omega) _ _ hG hS ls (lv_sub hl [1, 2, 0] rfl)
  exact loop2 (_ + 1) Y 0 (Nat.zero_le _) ⟨rfl, hBY⟩ (fun q hq => absurd hq (Nat.not_lt_zero _)) (Nat.lt_succ_self _) _ _ hG hS ls (lv_sub hl [1, 2, 0] rfl)
