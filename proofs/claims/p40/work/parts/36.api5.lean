set_option maxRecDepth 100000 in
set_option maxHeartbeats 4000000 in
theorem c_X6_isViewRight (l : Launch) {E : za_E} {b : Nat} {ad : za_Ad} {S X T Y : za_S} {ow : Int64} {dw : UInt64} (v : Nat) (hI : zs_I S) (hJ : zs_J S X) (hBX : zs_B X) (hok : zs_ok S X) (hv : v < S.1 0 0 0) : Met l yX6_isViewRight wsX6_isViewRight ({ frames := 4, cells := 0, slots := 0, locals := 89 } : Room) (za_Pc E b (ad, S, X, T, Y, ow, dw) [.ref (ad 0 0), .ref (ad 8 v)]) (za_Qi E b (fun r u => r = nI 1 ∧ ∃ X2, u = (ad, S, X2, T, Y, ow, dw) ∧ zs_fr X X2 ∧ zs_B X2)) (0) (0) (za_A b) := by
  refine zm_met (ccm := cX6_isViewRight) (maxL := 6) (ret := (some .boolean)) (ws' := _) (own := RX6) (lv := [(0, .ref (ad 0 0)), (1, .ref (ad 8 v))]) (by decide) rfl rfl rfl (by simp [lg_sl, Value.category]) ?_
  intro pg en s m below meth c hx hb hml hr hown hts hlocks hK hZ hb0 hG hS ls hl
  have hf11 := hts (.fieldLink RX6 11 "VideoBridge" "everybody" "[LVideoBridge$Person;") (by decide +kernel)
  have hf145 := hts (.fieldLink RX6 145 "VideoBridge$Person" "number" "I") (by decide +kernel)
  have hf186 := hts (.fieldLink RX6 186 "VideoBridge$Person" "layers" "LVideoBridge$Layers;") (by decide +kernel)
  have hf199 := hts (.fieldLink RX6 199 "VideoBridge$Chooser" "chosen" "LVideoBridge$Layers;") (by decide +kernel)
  have hf39 := hts (.fieldLink RX6 39 "VideoBridge" "chooser" "LVideoBridge$Chooser;") (by decide +kernel)
  have hf64 := hts (.fieldLink RX6 64 "VideoBridge$Person" "budget" "I") (by decide +kernel)
  have hinX6 : ∀ w ∈ u_ws RX6 TX6 11, w ∈ wsX6_isViewRight := by decide +kernel
  have hinX0 : ∀ w ∈ u_ws RX0 TX0 4, w ∈ wsX6_isViewRight := by decide +kernel
  have hinX2 : ∀ w ∈ u_ws RX2 TX2 8, w ∈ wsX6_isViewRight := by decide +kernel
  skip
  have hBS := hI.B
  have hc1 := hI.c
  refine lv_aload_n hx hb dX6_isViewRight_0 rfl (lv_at hl 0 rfl) ?_
  refine zg_BR_everybody hx hb hts hinX6 hown hf11 hK hG dX6_isViewRight_1 ?_
  refine lv_astore_n (lv' := [(2, .ref (ad 1 0)), (0, .ref (ad 0 0)), (1, .ref (ad 8 v))]) hx hb dX6_isViewRight_4 rfl hl (by decide) rfl (fun ls hl => ?_)
  refine lv_aload_n hx hb dX6_isViewRight_5 rfl (lv_at hl 0 rfl) ?_
  refine zl_EV hx hb hK hG dX6_isViewRight_6 ?_
  refine lv_istore_n (lv' := [(3, .int (nI 10)), (2, .ref (ad 1 0)), (0, .ref (ad 0 0)), (1, .ref (ad 8 v))]) hx hb dX6_isViewRight_7 rfl hl (by decide) rfl (fun ls hl => ?_)
  refine zb_iconst (n := 0) hx hb dX6_isViewRight_8 (by decide) ?_
  refine lv_istore (lv' := [(4, .int (nI 0)), (3, .int (nI 10)), (2, .ref (ad 1 0)), (0, .ref (ad 0 0)), (1, .ref (ad 8 v))]) hx hb dX6_isViewRight_9 hl (by decide) rfl (fun ls hl => ?_)
  have loop11 : ∀ (N : Nat) (i : Nat), (i ≤ 10) → 10 - i < N → ∀ (H : Heap) (locs : List Loc), za_G E b (ad, S, X, T, Y, ow, dw) H → va_S (za_A b) s.heap H locs → ∀ ls : Array Slot, lv_has ls 6 [(0, .ref (ad 0 0)), (1, .ref (ad 8 v)), (2, .ref (ad 1 0)), (3, .int (nI 10)), (4, .int (nI i))] → W pg l en ({ frames := 4, cells := 0, slots := 0, locals := 89 } : Room) s m ([.ref (ad 0 0), .ref (ad 8 v)] : List Value).toArray below meth c H locs (0) (0) (MQ below (za_Qi E b (fun r u => r = nI 1 ∧ ∃ X2, u = (ad, S, X2, T, Y, ow, dw) ∧ zs_fr X X2 ∧ zs_B X2)) ([.ref (ad 0 0), .ref (ad 8 v)] : List Value).toArray s (0) (0) (za_A b)) (F0 m 11 ls []) := by
    intro N
    induction N with
    | zero => intro i hi hN; exact absurd hN (Nat.not_lt_zero _)
    | succ N ih11 =>
      intro i hi hN H locs hG hS ls hl
      refine lv_iload hx hb dX6_isViewRight_11 (lv_at hl 4 rfl) ?_
      refine lv_iload_n hx hb dX6_isViewRight_13 rfl (lv_at hl 3 rfl) ?_
      refine zb_icmp_ge (x := i) (y := 10) (tgt := 60) hx hb (by omega) (by omega) dX6_isViewRight_14 (by decide) (fun c_14 => ?_) (fun c_14 => ?_)
      · refine lv_aload_n hx hb dX6_isViewRight_60 rfl (lv_at hl 0 rfl) ?_
        refine zg_BR_chooser hx hb hts hinX6 hown hf39 hK hG dX6_isViewRight_61 ?_
        refine lv_aload_n hx hb dX6_isViewRight_64 rfl (lv_at hl 1 rfl) ?_
        refine zc_Vv (As := [.ref (ad 8 v)]) (rest := []) hK hZ hb0 hG hS hx hb hml hown hts (c_X0_choose l v (by rw [hJ.2.2.2.1, hJ.2.2.2.2.1]; exact hI.Va v hv) hBX hBS) (cwV 1 hts gX6_isViewRight_X0_choose rfl rfl rfl (by decide +kernel) ⟨Nat.le_of_ble_eq_true rfl, Nat.le_of_ble_eq_true rfl⟩) (za_recv (q := (RX0, TX0, 4)) hK hG 4 0 ⟨by omega, rfl⟩ rfl rfl rfl) rfl hl rfl (Nat.le_of_ble_eq_true rfl) dX6_isViewRight_65 ⟨Nat.le_of_ble_eq_true rfl, Nat.le_of_ble_eq_true rfl⟩ (fun u_65 H locs hp hG hS => ?_)
        obtain ⟨X2, rfl, f2, b2, c2⟩ := hp
        have hJ2 : zs_J S X2 := hJ.fr f2
        refine lv_aload_n hx hb dX6_isViewRight_68 rfl (lv_at hl 1 rfl) ?_
        refine zg_PE_layers hx hb hts hinX2 hown hf186 hK hG v (hJ2.pe hv) dX6_isViewRight_69 ?_
        refine zc_Vi (As := []) (rest := []) hK hZ hb0 hG hS hx hb hml hown hts (c_X1_needed l v (Or.inl (hJ2.pe hv)) (fun a q => Nat.lt_trans (b2 0 a q) (by decide))) (cwV 0 hts gX6_isViewRight_X1_needed rfl rfl rfl (by decide +kernel) ⟨Nat.le_of_ble_eq_true rfl, Nat.le_of_ble_eq_true rfl⟩) (za_recv (q := (RX1, TX1, 1)) hK hG 6 v (show v < X2.1 5 0 0 ∨ v = 10 from (Or.inl (hJ2.pe hv))) rfl rfl rfl) rfl hl rfl (Nat.le_of_ble_eq_true rfl) dX6_isViewRight_72 ⟨Nat.le_of_ble_eq_true rfl, Nat.le_of_ble_eq_true rfl⟩ (fun r_72 u_72 H locs hp hG hS => ?_)
        obtain ⟨rfl, rfl⟩ := hp
        have ew : ∀ j, j < 10 → X2.1 0 v j = (zs_ch S v).1 j := fun j hj => by rw [f2.1 v (by omega)]; exact hok.1 v (by omega) hv j hj
        have eus : zs_sum (fun j => zs_need (X2.1 0 v j)) 10 = zs_us S v := zs_sum_congr 10 (fun j hj => by rw [ew j hj])
        have hus := zs_us_bu hI hv
        have hbv := hBS 1 v 0
        rw [eus]
        refine lv_aload_n hx hb dX6_isViewRight_75 rfl (lv_at hl 1 rfl) ?_
        refine zg_PE_budget hx hb hts hinX2 hown hf64 hK hG v (hJ2.pe hv) (n := S.1 1 v 0) rfl dX6_isViewRight_76 ?_
        refine zb_icmp_gt (x := zs_us S v) (y := S.1 1 v 0) (tgt := 103) hx hb (by omega) (by have := hBS 1 v 0; omega) dX6_isViewRight_79 (by decide) (fun c_79 => ?_) (fun c_79 => ?_)
        · omega
        · refine lv_aload_n hx hb dX6_isViewRight_82 rfl (lv_at hl 1 rfl) ?_
          refine zg_PE_layers hx hb hts hinX2 hown hf186 hK hG v (hJ2.pe hv) dX6_isViewRight_83 ?_
          refine lv_aload_n hx hb dX6_isViewRight_86 rfl (lv_at hl 0 rfl) ?_
          refine zg_BR_chooser hx hb hts hinX6 hown hf39 hK hG dX6_isViewRight_87 ?_
          refine zg_CH_chosen hx hb hts hinX0 hown hf199 hK hG dX6_isViewRight_90 ?_
          refine zc_Vi (As := [.ref (ad 6 10)]) (rest := []) hK hZ hb0 hG hS hx hb hml hown hts (c_X1_isSameAs l v 10 (Or.inl (hJ2.pe hv)) (Or.inr rfl) (fun a q => Nat.lt_trans (b2 0 a q) (by decide))) (cwV 1 hts gX6_isViewRight_X1_isSameAs rfl rfl rfl (by decide +kernel) ⟨Nat.le_of_ble_eq_true rfl, Nat.le_of_ble_eq_true rfl⟩) (za_recv (q := (RX1, TX1, 1)) hK hG 6 v (show v < X2.1 5 0 0 ∨ v = 10 from (Or.inl (hJ2.pe hv))) rfl rfl rfl) rfl hl rfl (Nat.le_of_ble_eq_true rfl) dX6_isViewRight_93 ⟨Nat.le_of_ble_eq_true rfl, Nat.le_of_ble_eq_true rfl⟩ (fun r_93 u_93 H locs hp hG hS => ?_)
          obtain ⟨hr9, rfl⟩ := hp
          have hr8 : r_93 = nI 1 := by
            rcases hr9 with h9 | h9
            · exact h9.1
            · exact absurd (fun j hj => (ew j hj).trans (c2 j hj).symm) h9.2
          subst hr8
          refine zb_if_eq (x := 1) (tgt := 103) hx hb (by decide) dX6_isViewRight_96 (by decide) (fun c9 => absurd c9 (by decide)) (fun _ => ?_)
          refine zb_iconst (n := 1) hx hb dX6_isViewRight_99 (by decide) ?_
          refine zb_goto (tgt := 104) hx hb dX6_isViewRight_100 (by decide) ?_
          exact zm_zret hx hb hr rfl hlocks hG hS (by omega) (by omega) ⟨rfl, X2, rfl, f2, b2⟩ dX6_isViewRight_104
      · refine lv_aload_n hx hb dX6_isViewRight_17 rfl (lv_at hl 2 rfl) ?_
        refine lv_iload hx hb dX6_isViewRight_18 (lv_at hl 4 rfl) ?_
        refine zld_EV (r := X.2 1 i 0) hx hb hK hG (by omega) rfl dX6_isViewRight_20 ?_
        refine zb_ostore (ad := ad) (κ := 8) (r := X.2 1 i 0) (lv' := [(5, za_o ad 8 (X.2 1 i 0)), (0, .ref (ad 0 0)), (1, .ref (ad 8 v)), (2, .ref (ad 1 0)), (3, .int (nI 10)), (4, .int (nI i))]) hx hb dX6_isViewRight_21 hl (by decide) rfl (fun ls hl => ?_)
        refine zb_oload hx hb dX6_isViewRight_23 (lv_at hl 0 rfl) ?_
        refine zb_ifnull (κ := 8) (r := X.2 1 i 0) (tgt := 54) hx hb dX6_isViewRight_25 (by decide) (fun c_25 => ?_) (fun x_1 c_25 => ?_)
        · rw [c_25] at hl
          refine zb_iinc (n := 1) (k := 5) (lv' := [(4, .int (nI (i + 1))), (5, .null), (0, .ref (ad 0 0)), (1, .ref (ad 8 v)), (2, .ref (ad 1 0)), (3, .int (nI 10))]) hx hb dX6_isViewRight_54 hl rfl (by decide) (by decide) rfl (fun ls hl => ?_)
          refine zb_goto (tgt := 11) hx hb dX6_isViewRight_57 (by decide) ?_
          exact ih11 (i + 1) (by omega) (by omega) _ _ hG hS ls (lv_sub hl [2, 3, 4, 5, 0] rfl)
        · rw [c_25] at hl
          have hyi : x_1 = i := (hJ.e c_25).1
          have hin : i < S.1 0 0 0 := (hJ.e c_25).2
          rw [hyi] at hl
          have hv_2 : ∀ z, X.2 1 i 0 = some z → z < X.1 5 0 0 := (hJ.ev i)
          refine lv_aload_n hx hb dX6_isViewRight_28 rfl (lv_at hl 2 rfl) ?_
          refine lv_aload hx hb dX6_isViewRight_29 (lv_at hl 0 rfl) ?_
          refine zc_Si (As := [.ref (ad 8 v), .ref (ad 8 i)]) (rest := []) hK hZ hb0 hG hS hx hb hml hown hts (c_X6_areTogether l (some v) (some i) (by rintro _ ⟨⟩; exact hJ.pe hv) (by rintro _ ⟨⟩; exact hJ.pe hin) (fun a r ha e => hJ.ro (hI.ro (by rw [hJ.2.2.2.1] at ha; exact ha) e))) (cwS 2 hts gX6_isViewRight_X6_areTogether rfl rfl rfl (by decide +kernel) ⟨Nat.le_of_ble_eq_true rfl, Nat.le_of_ble_eq_true rfl⟩) rfl hl rfl (Nat.le_of_ble_eq_true rfl) dX6_isViewRight_31 ⟨Nat.le_of_ble_eq_true rfl, Nat.le_of_ble_eq_true rfl⟩ (fun r_31 u_31 H locs hp hG hS => ?_)
          obtain ⟨rfl, rfl⟩ := hp
          have hbl := zs_bl (zs_tg S (some v) (some i))
          refine zb_if_ne (x := if zs_tg S (some v) (some i) = true then 1 else 0) (tgt := 54) hx hb (by omega) dX6_isViewRight_34 (by decide) (fun c_34 => ?_) (fun c_34 => ?_)
          · refine zb_iinc (n := 1) (k := 5) (lv' := [(4, .int (nI (i + 1))), (5, .ref (ad 8 i)), (0, .ref (ad 0 0)), (1, .ref (ad 8 v)), (2, .ref (ad 1 0)), (3, .int (nI 10))]) hx hb dX6_isViewRight_54 hl rfl (by decide) (by decide) rfl (fun ls hl => ?_)
            refine zb_goto (tgt := 11) hx hb dX6_isViewRight_57 (by decide) ?_
            exact ih11 (i + 1) (by omega) (by omega) _ _ hG hS ls (lv_sub hl [2, 3, 4, 5, 0] rfl)
          · refine lv_aload_n hx hb dX6_isViewRight_37 rfl (lv_at hl 2 rfl) ?_
            refine zg_PE_layers hx hb hts hinX2 hown hf186 hK hG v (hJ.pe hv) dX6_isViewRight_38 ?_
            refine lv_aload hx hb dX6_isViewRight_41 (lv_at hl 0 rfl) ?_
            refine zg_PE_number hx hb hts hinX2 hown hf145 hK hG i (hJ.pe hin) dX6_isViewRight_43 ?_
            refine zc_Vi (As := [.int (nI i)]) (rest := []) hK hZ hb0 hG hS hx hb hml hown hts (c_X1_of l v i (Or.inl (hJ.pe hv)) (by omega)) (cwV 1 hts gX6_isViewRight_X1_of rfl rfl rfl (by decide +kernel) ⟨Nat.le_of_ble_eq_true rfl, Nat.le_of_ble_eq_true rfl⟩) (za_recv (q := (RX1, TX1, 1)) hK hG 6 v (show v < X.1 5 0 0 ∨ v = 10 from (Or.inl (hJ.pe hv))) rfl rfl rfl) rfl hl rfl (Nat.le_of_ble_eq_true rfl) dX6_isViewRight_46 ⟨Nat.le_of_ble_eq_true rfl, Nat.le_of_ble_eq_true rfl⟩ (fun r_46 u_46 H locs hp hG hS => ?_)
            obtain ⟨rfl, rfl⟩ := hp
            refine zb_if_eq (x := X.1 0 v i) (tgt := 54) hx hb (by have := hBX 0 v i; omega) dX6_isViewRight_49 (by decide) (fun c_49 => ?_) (fun c_49 => ?_)
            · refine zb_iinc (n := 1) (k := 5) (lv' := [(4, .int (nI (i + 1))), (5, .ref (ad 8 i)), (0, .ref (ad 0 0)), (1, .ref (ad 8 v)), (2, .ref (ad 1 0)), (3, .int (nI 10))]) hx hb dX6_isViewRight_54 hl rfl (by decide) (by decide) rfl (fun ls hl => ?_)
              refine zb_goto (tgt := 11) hx hb dX6_isViewRight_57 (by decide) ?_
              exact ih11 (i + 1) (by omega) (by omega) _ _ hG hS ls (lv_sub hl [2, 3, 4, 5, 0] rfl)
            · exact absurd ((hok.1 v (by omega) hv i (by omega)).trans (zs_ch_tg hI hv (zs_b0 (by omega)))) c_49
  exact loop11 (_ + 1) 0 (Nat.zero_le _) (Nat.lt_succ_self _) _ _ hG hS ls (lv_sub hl [3, 4, 2, 1, 0] rfl)

set_option maxRecDepth 100000 in
set_option maxHeartbeats 4000000 in
theorem c_X6_isApart (l : Launch) {E : za_E} {b : Nat} {ad : za_Ad} {S X T Y : za_S} {ow : Int64} {dw : UInt64}  (hC : zs_C S X) : Met l yX6_isApart wsX6_isApart ({ frames := 5, cells := 0, slots := 0, locals := 114 } : Room) (za_Pc E b (ad, S, X, T, Y, ow, dw) [.ref (ad 0 0)]) (za_Qi E b (fun r u => r = nI 1 ∧ ∃ X2, u = (ad, S, X2, T, Y, ow, dw) ∧ zs_fr X X2 ∧ zs_B X2)) (0) (0) (za_A b) := by
  refine zm_met (ccm := cX6_isApart) (maxL := 5) (ret := (some .boolean)) (ws' := _) (own := RX6) (lv := [(0, .ref (ad 0 0))]) (by decide) rfl rfl rfl (by simp [lg_sl, Value.category]) ?_
  intro pg en s m below meth c hx hb hml hr hown hts hlocks hK hZ hb0 hG hS ls hl
  have hf11 := hts (.fieldLink RX6 11 "VideoBridge" "everybody" "[LVideoBridge$Person;") (by decide +kernel)
  have hf165 := hts (.fieldLink RX6 165 "VideoBridge$Room" "speaker" "LVideoBridge$Person;") (by decide +kernel)
  have hf17 := hts (.fieldLink RX6 17 "VideoBridge" "allRooms" "[LVideoBridge$Room;") (by decide +kernel)
  have hf93 := hts (.fieldLink RX6 93 "VideoBridge$Person" "room" "LVideoBridge$Room;") (by decide +kernel)
  have hinX6 : ∀ w ∈ u_ws RX6 TX6 11, w ∈ wsX6_isApart := by decide +kernel
  have hinX2 : ∀ w ∈ u_ws RX2 TX2 8, w ∈ wsX6_isApart := by decide +kernel
  have hinX4 : ∀ w ∈ u_ws RX4 TX4 6, w ∈ wsX6_isApart := by decide +kernel
  skip
  obtain ⟨hI, hJ, hBX, hok, hRw⟩ := hC
  have hBS := hI.B
  have hc1 := hI.c
  refine lv_aload_n hx hb dX6_isApart_0 rfl (lv_at hl 0 rfl) ?_
  refine zg_BR_everybody hx hb hts hinX6 hown hf11 hK hG dX6_isApart_1 ?_
  refine lv_astore_n (lv' := [(1, .ref (ad 1 0)), (0, .ref (ad 0 0))]) hx hb dX6_isApart_4 rfl hl (by decide) rfl (fun ls hl => ?_)
  refine lv_aload_n hx hb dX6_isApart_5 rfl (lv_at hl 0 rfl) ?_
  refine zl_EV hx hb hK hG dX6_isApart_6 ?_
  refine lv_istore_n (lv' := [(2, .int (nI 10)), (1, .ref (ad 1 0)), (0, .ref (ad 0 0))]) hx hb dX6_isApart_7 rfl hl (by decide) rfl (fun ls hl => ?_)
  refine zb_iconst (n := 0) hx hb dX6_isApart_8 (by decide) ?_
  refine lv_istore_n (lv' := [(3, .int (nI 0)), (2, .int (nI 10)), (1, .ref (ad 1 0)), (0, .ref (ad 0 0))]) hx hb dX6_isApart_9 rfl hl (by decide) rfl (fun ls hl => ?_)
  have loop10 : ∀ (N : Nat) (i : Nat) (X1 : za_S), (i ≤ 10) → (zs_fr X X1) → (zs_B X1) → 10 - i < N → ∀ (H : Heap) (locs : List Loc), za_G E b (ad, S, X1, T, Y, ow, dw) H → va_S (za_A b) s.heap H locs → ∀ ls : Array Slot, lv_has ls 5 [(0, .ref (ad 0 0)), (1, .ref (ad 1 0)), (2, .int (nI 10)), (3, .int (nI i))] → W pg l en ({ frames := 5, cells := 0, slots := 0, locals := 114 } : Room) s m ([.ref (ad 0 0)] : List Value).toArray below meth c H locs (0) (0) (MQ below (za_Qi E b (fun r u => r = nI 1 ∧ ∃ X2, u = (ad, S, X2, T, Y, ow, dw) ∧ zs_fr X X2 ∧ zs_B X2)) ([.ref (ad 0 0)] : List Value).toArray s (0) (0) (za_A b)) (F0 m 10 ls []) := by
    intro N
    induction N with
    | zero => intro i X1 hi hf1 hB1 hN; exact absurd hN (Nat.not_lt_zero _)
    | succ N ih10 =>
      intro i X1 hi hf1 hB1 hN H locs hG hS ls hl
      have hJ1 : zs_J S X1 := hJ.fr hf1
      have hok1 : zs_ok S X1 := ⟨fun v hv hn z hz => by rw [hf1.1 v (by omega)]; exact hok.1 v hv hn z hz, by rw [hf1.2.1]; exact hok.2⟩
      refine lv_iload_n hx hb dX6_isApart_10 rfl (lv_at hl 3 rfl) ?_
      refine lv_iload_n hx hb dX6_isApart_11 rfl (lv_at hl 2 rfl) ?_
      refine zb_icmp_ge (x := i) (y := 10) (tgt := 42) hx hb (by omega) (by omega) dX6_isApart_12 (by decide) (fun c_12 => ?_) (fun c_12 => ?_)
      · refine lv_aload_n hx hb dX6_isApart_42 rfl (lv_at hl 0 rfl) ?_
        refine zg_BR_allRooms hx hb hts hinX6 hown hf17 hK hG dX6_isApart_43 ?_
        refine lv_astore_n (lv' := [(1, .ref (ad 2 0)), (0, .ref (ad 0 0)), (2, .int (nI 10)), (3, .int (nI i))]) hx hb dX6_isApart_46 rfl hl (by decide) rfl (fun ls hl => ?_)
        refine lv_aload_n hx hb dX6_isApart_47 rfl (lv_at hl 0 rfl) ?_
        refine zl_AR hx hb hK hG dX6_isApart_48 ?_
        refine lv_istore_n (lv' := [(2, .int (nI 6)), (1, .ref (ad 2 0)), (0, .ref (ad 0 0)), (3, .int (nI i))]) hx hb dX6_isApart_49 rfl hl (by decide) rfl (fun ls hl => ?_)
        refine zb_iconst (n := 0) hx hb dX6_isApart_50 (by decide) ?_
        refine lv_istore_n (lv' := [(3, .int (nI 0)), (2, .int (nI 6)), (1, .ref (ad 2 0)), (0, .ref (ad 0 0))]) hx hb dX6_isApart_51 rfl hl (by decide) rfl (fun ls hl => ?_)
        have loop52 : ∀ (N : Nat) (i : Nat), (i ≤ 6) → 6 - i < N → ∀ (H : Heap) (locs : List Loc), za_G E b (ad, S, X1, T, Y, ow, dw) H → va_S (za_A b) s.heap H locs → ∀ ls : Array Slot, lv_has ls 5 [(0, .ref (ad 0 0)), (1, .ref (ad 2 0)), (2, .int (nI 6)), (3, .int (nI i))] → W pg l en ({ frames := 5, cells := 0, slots := 0, locals := 114 } : Room) s m ([.ref (ad 0 0)] : List Value).toArray below meth c H locs (0) (0) (MQ below (za_Qi E b (fun r u => r = nI 1 ∧ ∃ X2, u = (ad, S, X2, T, Y, ow, dw) ∧ zs_fr X X2 ∧ zs_B X2)) ([.ref (ad 0 0)] : List Value).toArray s (0) (0) (za_A b)) (F0 m 52 ls []) := by
          intro N
          induction N with
          | zero => intro i hi hN; exact absurd hN (Nat.not_lt_zero _)
          | succ N ih52 =>
            intro i hi hN H locs hG hS ls hl
            refine lv_iload_n hx hb dX6_isApart_52 rfl (lv_at hl 3 rfl) ?_
            refine lv_iload_n hx hb dX6_isApart_53 rfl (lv_at hl 2 rfl) ?_
            refine zb_icmp_ge (x := i) (y := 6) (tgt := 96) hx hb (by omega) (by omega) dX6_isApart_54 (by decide) (fun c_54 => ?_) (fun c_54 => ?_)
            · refine zb_iconst (n := 1) hx hb dX6_isApart_96 (by decide) ?_
              exact zm_zret hx hb hr rfl hlocks hG hS (by omega) (by omega) ⟨rfl, X1, rfl, hf1, hB1⟩ dX6_isApart_97
            · refine lv_aload_n hx hb dX6_isApart_57 rfl (lv_at hl 1 rfl) ?_
              refine lv_iload_n hx hb dX6_isApart_58 rfl (lv_at hl 3 rfl) ?_
              refine zld_AR (r := X1.2 2 i 0) hx hb hK hG (by omega) rfl dX6_isApart_59 ?_
              refine zb_ostore (ad := ad) (κ := 9) (r := X1.2 2 i 0) (lv' := [(4, za_o ad 9 (X1.2 2 i 0)), (0, .ref (ad 0 0)), (1, .ref (ad 2 0)), (2, .int (nI 6)), (3, .int (nI i))]) hx hb dX6_isApart_60 hl (by decide) rfl (fun ls hl => ?_)
              refine zb_oload hx hb dX6_isApart_62 (lv_at hl 0 rfl) ?_
              refine zb_ifnull (κ := 9) (r := X1.2 2 i 0) (tgt := 90) hx hb dX6_isApart_64 (by decide) (fun c_64 => ?_) (fun x_1 c_64 => ?_)
              · rw [c_64] at hl
                refine zb_iinc (n := 1) (k := 4) (lv' := [(3, .int (nI (i + 1))), (4, .null), (0, .ref (ad 0 0)), (1, .ref (ad 2 0)), (2, .int (nI 6))]) hx hb dX6_isApart_90 hl rfl (by decide) (by decide) rfl (fun ls hl => ?_)
                refine zb_goto (tgt := 52) hx hb dX6_isApart_93 (by decide) ?_
                exact ih52 (i + 1) (by omega) (by omega) _ _ hG hS ls (lv_sub hl [2, 3, 4, 0] rfl)
              · rw [c_64] at hl
                have hyi : x_1 = i := (hJ1.r c_64).1
                have hin : i < S.1 0 1 0 := (hJ1.r c_64).2
                rw [hyi] at hl
                have hv_2 : ∀ z, X1.2 2 i 0 = some z → z < X1.1 5 1 0 := (hJ1.rv i)
                refine lv_aload hx hb dX6_isApart_67 (lv_at hl 0 rfl) ?_
                refine zg_RM_speaker hx hb hts hinX4 hown hf165 hK hG i (hJ1.ro hin) (r := S.2 3 i 0) rfl dX6_isApart_69 ?_
                refine zb_ifnull (κ := 8) (r := S.2 3 i 0) (tgt := 90) hx hb dX6_isApart_72 (by decide) (fun c_72 => ?_) (fun x_3 c_72 => ?_)
                · refine zb_iinc (n := 1) (k := 4) (lv' := [(3, .int (nI (i + 1))), (4, .ref (ad 9 i)), (0, .ref (ad 0 0)), (1, .ref (ad 2 0)), (2, .int (nI 6))]) hx hb dX6_isApart_90 hl rfl (by decide) (by decide) rfl (fun ls hl => ?_)
                  refine zb_goto (tgt := 52) hx hb dX6_isApart_93 (by decide) ?_
                  exact ih52 (i + 1) (by omega) (by omega) _ _ hG hS ls (lv_sub hl [2, 3, 4, 0] rfl)
                · have hsp := hI.sp hin c_72
                  refine lv_aload hx hb dX6_isApart_75 (lv_at hl 0 rfl) ?_
                  refine zg_RM_speaker hx hb hts hinX4 hown hf165 hK hG i (hJ1.ro hin) (r := some x_3) c_72 dX6_isApart_77 ?_
                  refine zg_PE_room hx hb hts hinX2 hown hf93 hK hG x_3 (hJ1.pe hsp.1) (r := S.2 0 x_3 0) rfl dX6_isApart_80 ?_
                  refine lv_aload hx hb dX6_isApart_83 (lv_at hl 0 rfl) ?_
                  refine zb_acmp_eq (tgt := 90) hx hb hG 9 (by decide) (S.2 0 x_3 0) (some i) (fun z hz => hJ1.ro (hI.ro hsp.1 hz)) (by rintro _ ⟨⟩; exact (hJ1.ro hin)) dX6_isApart_85 (by decide) (fun c_85 => ?_) (fun c_85 => ?_)
                  · refine zb_iinc (n := 1) (k := 4) (lv' := [(3, .int (nI (i + 1))), (4, .ref (ad 9 i)), (0, .ref (ad 0 0)), (1, .ref (ad 2 0)), (2, .int (nI 6))]) hx hb dX6_isApart_90 hl rfl (by decide) (by decide) rfl (fun ls hl => ?_)
                    refine zb_goto (tgt := 52) hx hb dX6_isApart_93 (by decide) ?_
                    exact ih52 (i + 1) (by omega) (by omega) _ _ hG hS ls (lv_sub hl [2, 3, 4, 0] rfl)
                  · exact absurd hsp.2 c_85
        exact loop52 (_ + 1) 0 (Nat.zero_le _) (Nat.lt_succ_self _) _ _ hG hS ls (lv_sub hl [3, 2, 1, 0] rfl)
      · refine lv_aload_n hx hb dX6_isApart_15 rfl (lv_at hl 1 rfl) ?_
        refine lv_iload_n hx hb dX6_isApart_16 rfl (lv_at hl 3 rfl) ?_
        refine zld_EV (r := X1.2 1 i 0) hx hb hK hG (by omega) rfl dX6_isApart_17 ?_
        refine zb_ostore (ad := ad) (κ := 8) (r := X1.2 1 i 0) (lv' := [(4, za_o ad 8 (X1.2 1 i 0)), (0, .ref (ad 0 0)), (1, .ref (ad 1 0)), (2, .int (nI 10)), (3, .int (nI i))]) hx hb dX6_isApart_18 hl (by decide) rfl (fun ls hl => ?_)
        refine zb_oload hx hb dX6_isApart_20 (lv_at hl 0 rfl) ?_
        refine zb_ifnull (κ := 8) (r := X1.2 1 i 0) (tgt := 36) hx hb dX6_isApart_22 (by decide) (fun c_22 => ?_) (fun x_4 c_22 => ?_)
        · rw [c_22] at hl
          refine zb_iinc (n := 1) (k := 4) (lv' := [(3, .int (nI (i + 1))), (4, .null), (0, .ref (ad 0 0)), (1, .ref (ad 1 0)), (2, .int (nI 10))]) hx hb dX6_isApart_36 hl rfl (by decide) (by decide) rfl (fun ls hl => ?_)
          refine zb_goto (tgt := 10) hx hb dX6_isApart_39 (by decide) ?_
          exact ih10 (i + 1) X1 (by omega) hf1 hB1 (by omega) _ _ hG hS ls (lv_sub hl [2, 3, 4, 0] rfl)
        · rw [c_22] at hl
          have hyi : x_4 = i := (hJ1.e c_22).1
          have hin : i < S.1 0 0 0 := (hJ1.e c_22).2
          rw [hyi] at hl
          have hv_5 : ∀ z, X1.2 1 i 0 = some z → z < X1.1 5 0 0 := (hJ1.ev i)
          refine lv_aload_n hx hb dX6_isApart_25 rfl (lv_at hl 1 rfl) ?_
          refine lv_aload hx hb dX6_isApart_26 (lv_at hl 0 rfl) ?_
          refine zc_Vi (As := [.ref (ad 8 i)]) (rest := []) hK hZ hb0 hG hS hx hb hml hown hts (c_X6_isViewRight l i hI hJ1 hB1 hok1 hin) (cwV 1 hts gX6_isApart_X6_isViewRight rfl rfl rfl (by decide +kernel) ⟨Nat.le_of_ble_eq_true rfl, Nat.le_of_ble_eq_true rfl⟩) (za_recv (q := (RX6, TX6, 11)) hK hG 0 0 ⟨by omega, rfl⟩ rfl rfl rfl) rfl hl rfl (Nat.le_of_ble_eq_true rfl) dX6_isApart_28 ⟨Nat.le_of_ble_eq_true rfl, Nat.le_of_ble_eq_true rfl⟩ (fun r_28 u_28 H locs hp hG hS => ?_)
          obtain ⟨rfl, X2, rfl, f2, b2⟩ := hp
          refine zb_if_ne (x := 1) (tgt := 36) hx hb (by decide) dX6_isApart_31 (by decide) (fun _ => ?_) (fun c9 => absurd c9 (by decide))
          refine zb_iinc (n := 1) (k := 4) (lv' := [(3, .int (nI (i + 1))), (4, .ref (ad 8 i)), (0, .ref (ad 0 0)), (1, .ref (ad 1 0)), (2, .int (nI 10))]) hx hb dX6_isApart_36 hl rfl (by decide) (by decide) rfl (fun ls hl => ?_)
          refine zb_goto (tgt := 10) hx hb dX6_isApart_39 (by decide) ?_
          exact ih10 (i + 1) X2 (by omega) (hf1.tr f2) b2 (by omega) _ _ hG hS ls (lv_sub hl [2, 3, 4, 0] rfl)
  exact loop10 (_ + 1) 0 X (Nat.zero_le _) (zs_fr.rf X) hBX (Nat.lt_succ_self _) _ _ hG hS ls (lv_sub hl [3, 2, 1, 0] rfl)
