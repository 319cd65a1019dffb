
theorem za_eqG {E : za_E} {b : Nat} {H : Heap} {u v : za_T} (e : u = v) (h : za_G E b u H) : za_G E b v H := e ▸ h
theorem zs_tku {A : za_S} {t q : Nat} : za_N (zs_u A t) 4 q 0 (A.1 4 q 0 + 1) = zs_u (za_N A 4 q 0 (A.1 4 q 0 + 1)) t := by
  refine za_Sx (fun c a d => ?_) (fun _ _ _ => rfl)
  simp only [zs_u, za_N1]
  (repeat' split) <;> first | rfl | omega
theorem zs_sx {A : za_S} {x y z : Nat} (h : y = z) : za_N (za_N A 0 4 0 x) 0 4 0 y = za_N A 0 4 0 z := by
  subst h
  refine za_Sx (fun c a d => ?_) (fun _ _ _ => rfl)
  simp only [za_N1]
  split <;> rfl
set_option maxRecDepth 100000 in
set_option maxHeartbeats 4000000 in
theorem c_X7_tickPasses (l : Launch) {E : za_E} {b : Nat} {ad : za_Ad} {S X T Y : za_S} {ow : Int64} {dw : UInt64}  (hM : zs_M T Y) (ht : T.1 0 3 0 < 2000) : Met l yX7_tickPasses wsX7_tickPasses ({ frames := 3, cells := 0, slots := 0, locals := 71 } : Room) (za_Pc E b (ad, S, X, T, Y, ow, dw) [.ref (ad 14 0)]) (za_Qv E b (fun u => ∃ Y2, u = (ad, S, X, zs_tick T, Y2, ow, dw) ∧ zm_fy Y Y2)) (0) (0) (za_A b) := by
  refine zm_met (ccm := cX7_tickPasses) (maxL := 2) (ret := none) (ws' := _) (own := RX7) (lv := [(0, .ref (ad 14 0))]) (by decide) rfl rfl rfl (by simp [lg_sl, Value.category]) ?_
  intro pg en s m below meth c hx hb hml hr hown hts hlocks hK hZ hb0 hG hS ls hl
  have hf121 := hts (.fieldLink RX7 121 "VideoBridgeModel" "ticks" "I") (by decide +kernel)
  have hf124 := hts (.fieldLink RX7 124 "VideoBridgeModel" "sent" "J") (by decide +kernel)
  have hf25 := hts (.fieldLink RX7 25 "VideoBridgeModel" "talks" "[J") (by decide +kernel)
  have hf35 := hts (.fieldLink RX7 35 "VideoBridgeModel" "speakers" "[I") (by decide +kernel)
  have hf47 := hts (.fieldLink RX7 47 "VideoBridgeModel" "follow" "[I") (by decide +kernel)
  have hf50 := hts (.fieldLink RX7 50 "VideoBridgeModel" "stopped" "[Z") (by decide +kernel)
  have hf54 := hts (.fieldLink RX7 54 "VideoBridgeModel" "notes" "[I") (by decide +kernel)
  have hf57 := hts (.fieldLink RX7 57 "VideoBridgeModel" "note" "[I") (by decide +kernel)
  have hf70 := hts (.fieldLink RX7 70 "VideoBridgeModel" "people" "I") (by decide +kernel)
  have hf77 := hts (.fieldLink RX7 77 "VideoBridgeModel" "rooms" "I") (by decide +kernel)
  have hf80 := hts (.fieldLink RX7 80 "VideoBridgeModel" "recorders" "I") (by decide +kernel)
  have hinX7 : ∀ w ∈ u_ws RX7 TX7 25, w ∈ wsX7_tickPasses := by decide +kernel
  skip
  obtain ⟨hI, hL, h6, hBY⟩ := hM
  have hBT := hI.B
  have hc1 := hI.c
  have htI := hI.t
  have tF := zs_tick_f hI hL ht
  have eA1 : (zs_tA T).1 0 1 0 = T.1 0 1 0 := by rw [tF.cA]; rfl
  have eA0 : (zs_tA T).1 0 0 0 = T.1 0 0 0 := by rw [tF.cA]; rfl
  have eB1 : (zs_tB T).1 0 1 0 = T.1 0 1 0 := by rw [tF.b0]; exact eA1
  have eB0 : (zs_tB T).1 0 0 0 = T.1 0 0 0 := by rw [tF.b0]; exact eA0
  have eB2 : (zs_tB T).1 0 2 0 = T.1 0 2 0 := by rw [tF.b0, tF.cA]; rfl
  refine zb_iconst (n := 0) hx hb dX7_tickPasses_0 (by decide) ?_
  refine lv_istore_n (lv' := [(1, .int (nI 0)), (0, .ref (ad 14 0))]) hx hb dX7_tickPasses_1 rfl hl (by decide) rfl (fun ls hl => ?_)
  have loop2 : ∀ (N : Nat) (i : Nat), (i ≤ T.1 0 1 0) → T.1 0 1 0 - i < N → ∀ (H : Heap) (locs : List Loc), za_G E b (ad, S, X, (zs_u (zs_tt (zs_t0 T) i).1 (T.1 0 3 0)), Y, ow, dw) H → va_S (za_A b) s.heap H locs → ∀ ls : Array Slot, lv_has ls 2 [(0, .ref (ad 14 0)), (1, .int (nI i))] → W pg l en ({ frames := 3, cells := 0, slots := 0, locals := 71 } : Room) s m ([.ref (ad 14 0)] : List Value).toArray below meth c H locs (0) (0) (MQ below (za_Qv E b (fun u => ∃ Y2, u = (ad, S, X, zs_tick T, Y2, ow, dw) ∧ zm_fy Y Y2)) ([.ref (ad 14 0)] : List Value).toArray s (0) (0) (za_A b)) (F0 m 2 ls []) := by
    intro N
    induction N with
    | zero => intro i hi hN; exact absurd hN (Nat.not_lt_zero _)
    | succ N ih2 =>
      intro i hi hN H locs hG hS ls hl
      obtain ⟨hIi, hci, hm1, hm2⟩ := zs_tt_f tF.i0 tF.hT i (by omega)
      have hr0 : (zs_tt (zs_t0 T) i).1.1 0 0 0 = T.1 0 0 0 := by rw [hci]; rfl
      have hr1 : (zs_tt (zs_t0 T) i).1.1 0 1 0 = T.1 0 1 0 := by rw [hci]; rfl
      have hm3 : (zs_tt (zs_t0 T) i).1.1 7 8 0 ≤ T.1 7 8 0 + i := hm2
      refine lv_iload_n hx hb dX7_tickPasses_2 rfl (lv_at hl 1 rfl) ?_
      refine lv_aload_n hx hb dX7_tickPasses_3 rfl (lv_at hl 0 rfl) ?_
      refine zg_MO_rooms hx hb hts hinX7 hown hf77 hK hG (n := T.1 0 1 0) hr1 dX7_tickPasses_4 ?_
      refine zb_icmp_ge (x := i) (y := T.1 0 1 0) (tgt := 21) hx hb (by omega) (by have := hBT 0 1 0; omega) dX7_tickPasses_7 (by decide) (fun c_7 => ?_) (fun c_7 => ?_)
      · obtain rfl : i = T.1 0 1 0 := by omega
        have e6 : (zs_tt (zs_t0 T) (T.1 0 1 0)).1 = zs_tA T := zs_tt_6 (S := zs_t0 T) hc1.2.1
        rw [e6] at hG
        refine zb_iconst (n := 0) hx hb dX7_tickPasses_21 (by decide) ?_
        refine lv_istore_n (lv' := [(1, .int (nI 0)), (0, .ref (ad 14 0))]) hx hb dX7_tickPasses_22 rfl hl (by decide) rfl (fun ls hl => ?_)
        have loop23 : ∀ (N : Nat) (i : Nat), (i ≤ T.1 0 1 0) → T.1 0 1 0 - i < N → ∀ (H : Heap) (locs : List Loc), za_G E b (ad, S, X, (zs_u (zs_ta (zs_tA T) i) (T.1 0 3 0)), Y, ow, dw) H → va_S (za_A b) s.heap H locs → ∀ ls : Array Slot, lv_has ls 2 [(0, .ref (ad 14 0)), (1, .int (nI i))] → W pg l en ({ frames := 3, cells := 0, slots := 0, locals := 71 } : Room) s m ([.ref (ad 14 0)] : List Value).toArray below meth c H locs (0) (0) (MQ below (za_Qv E b (fun u => ∃ Y2, u = (ad, S, X, zs_tick T, Y2, ow, dw) ∧ zm_fy Y Y2)) ([.ref (ad 14 0)] : List Value).toArray s (0) (0) (za_A b)) (F0 m 23 ls []) := by
          intro N
          induction N with
          | zero => intro i hi hN; exact absurd hN (Nat.not_lt_zero _)
          | succ N ih23 =>
            intro i hi hN H locs hG hS ls hl
            obtain ⟨hIt, ht2, ht1, ht4⟩ := zs_ta_f tF.iA tF.bA i
            have ht0 := ht1 0 (by decide)
            have ht5 : (zs_ta (zs_tA T) i).1 0 1 0 = T.1 0 1 0 := by rw [ht0]; exact eA1
            have ht6 : (zs_ta (zs_tA T) i).1 0 0 0 = T.1 0 0 0 := by rw [ht0]; exact eA0
            refine lv_iload_n hx hb dX7_tickPasses_23 rfl (lv_at hl 1 rfl) ?_
            refine lv_aload_n hx hb dX7_tickPasses_24 rfl (lv_at hl 0 rfl) ?_
            refine zg_MO_rooms hx hb hts hinX7 hown hf77 hK hG (n := T.1 0 1 0) ht5 dX7_tickPasses_25 ?_
            refine zb_icmp_ge (x := i) (y := T.1 0 1 0) (tgt := 62) hx hb (by omega) (by have := hBT 0 1 0; omega) dX7_tickPasses_28 (by decide) (fun c_28 => ?_) (fun c_28 => ?_)
            · obtain rfl : i = T.1 0 1 0 := by omega
              have e6b : zs_ta (zs_tA T) (T.1 0 1 0) = zs_tB T := by rw [← eA1]; exact zs_ta_6 (by omega)
              rw [e6b] at hG
              refine zb_iconst (n := 0) hx hb dX7_tickPasses_62 (by decide) ?_
              refine lv_istore_n (lv' := [(1, .int (nI 0)), (0, .ref (ad 14 0))]) hx hb dX7_tickPasses_63 rfl hl (by decide) rfl (fun ls hl => ?_)
              have loop64 : ∀ (N : Nat) (i : Nat), (i ≤ T.1 0 2 0) → T.1 0 2 0 - i < N → ∀ (H : Heap) (locs : List Loc), za_G E b (ad, S, X, (zs_u (zs_nt (zs_tB T) i) (T.1 0 3 0)), Y, ow, dw) H → va_S (za_A b) s.heap H locs → ∀ ls : Array Slot, lv_has ls 2 [(0, .ref (ad 14 0)), (1, .int (nI i))] → W pg l en ({ frames := 3, cells := 0, slots := 0, locals := 71 } : Room) s m ([.ref (ad 14 0)] : List Value).toArray below meth c H locs (0) (0) (MQ below (za_Qv E b (fun u => ∃ Y2, u = (ad, S, X, zs_tick T, Y2, ow, dw) ∧ zm_fy Y Y2)) ([.ref (ad 14 0)] : List Value).toArray s (0) (0) (za_A b)) (F0 m 64 ls []) := by
                intro N
                induction N with
                | zero => intro i hi hN; exact absurd hN (Nat.not_lt_zero _)
                | succ N ih64 =>
                  intro i hi hN H locs hG hS ls hl
                  obtain ⟨hI3, e1, e2, e7⟩ := zs_nt_f tF.iB tF.nB i (by omega)
                  have e0 : (zs_nt (zs_tB T) i).1 0 2 0 = T.1 0 2 0 := by rw [e1 0 (by decide)]; exact eB2
                  have e01 : (zs_nt (zs_tB T) i).1 0 1 0 = T.1 0 1 0 := by rw [e1 0 (by decide)]; exact eB1
                  have e00 : (zs_nt (zs_tB T) i).1 0 0 0 = T.1 0 0 0 := by rw [e1 0 (by decide)]; exact eB0
                  refine lv_iload_n hx hb dX7_tickPasses_64 rfl (lv_at hl 1 rfl) ?_
                  refine lv_aload_n hx hb dX7_tickPasses_65 rfl (lv_at hl 0 rfl) ?_
                  refine zg_MO_recorders hx hb hts hinX7 hown hf80 hK hG (n := T.1 0 2 0) e0 dX7_tickPasses_66 ?_
                  refine zb_icmp_ge (x := i) (y := T.1 0 2 0) (tgt := 125) hx hb (by omega) (by have := hBT 0 2 0; omega) dX7_tickPasses_69 (by decide) (fun c_69 => ?_) (fun c_69 => ?_)
                  · obtain rfl : i = T.1 0 2 0 := by omega
                    have e6c : zs_nt (zs_tB T) (T.1 0 2 0) = zs_tC T := by rw [← eB2]; exact zs_nt_8 (by omega)
                    rw [e6c] at hG
                    obtain ⟨-, c1, -, c7⟩ := zs_nt_f tF.iB tF.nB 8 (Nat.le_refl 8)
                    have eC : (zs_tC T).1 0 = (zs_t0 T).1 0 := (c1 0 (by decide)).trans (tF.b0.trans tF.cA)
                    have eC0 : (zs_tC T).1 0 0 0 = T.1 0 0 0 := by rw [eC]; rfl
                    have eC3 : (zs_tC T).1 0 3 0 = T.1 0 3 0 + 1 := by rw [eC]; exact za_Ns _ _ _ _ _
                    refine lv_aload_n hx hb dX7_tickPasses_125 rfl (lv_at hl 0 rfl) ?_
                    refine lv_dup hx hb dX7_tickPasses_126 rfl ?_
                    refine zg_MO_ticks hx hb hts hinX7 hown hf121 hK hG (n := T.1 0 3 0) (za_Ns _ _ _ _ _) dX7_tickPasses_127 ?_
                    refine zb_iconst (n := 1) hx hb dX7_tickPasses_130 (by decide) ?_
                    refine zb_iadd hx hb dX7_tickPasses_131 ?_
                    refine zp_MO_ticks hx hb hts hinX7 hown hf121 hS hK hG dX7_tickPasses_132 (fun H locs hG hS => ?_)
                    have hG : za_G E b (ad, S, X, zs_tC T, Y, ow, dw) H := by
                      have e9 : za_N (zs_u (zs_tC T) (T.1 0 3 0)) 0 3 0 (T.1 0 3 0 + 1) = zs_tC T := (zs_u_u _ _ _).trans (zs_u_i eC3)
                      rw [e9] at hG
                      exact hG
                    refine zb_iconst (n := 0) hx hb dX7_tickPasses_135 (by decide) ?_
                    refine lv_istore_n (lv' := [(1, .int (nI 0)), (0, .ref (ad 14 0))]) hx hb dX7_tickPasses_136 rfl hl (by decide) rfl (fun ls hl => ?_)
                    have loop137 : ∀ (N : Nat) (Y1 : za_S) (i : Nat), (i ≤ T.1 0 0 0) → (zm_fy Y Y1) → T.1 0 0 0 - i < N → ∀ (H : Heap) (locs : List Loc), za_G E b (ad, S, X, (za_N (zs_tC T) 0 4 0 ((zs_tC T).1 0 4 0 + zs_ua (zs_tA T) i)), Y1, ow, dw) H → va_S (za_A b) s.heap H locs → ∀ ls : Array Slot, lv_has ls 2 [(0, .ref (ad 14 0)), (1, .int (nI i))] → W pg l en ({ frames := 3, cells := 0, slots := 0, locals := 71 } : Room) s m ([.ref (ad 14 0)] : List Value).toArray below meth c H locs (0) (0) (MQ below (za_Qv E b (fun u => ∃ Y2, u = (ad, S, X, zs_tick T, Y2, ow, dw) ∧ zm_fy Y Y2)) ([.ref (ad 14 0)] : List Value).toArray s (0) (0) (za_A b)) (F0 m 137 ls []) := by
                      intro N
                      induction N with
                      | zero => intro Y1 i hi hfy hN; exact absurd hN (Nat.not_lt_zero _)
                      | succ N ih137 =>
                        intro Y1 i hi hfy hN H locs hG hS ls hl
                        have hub := zs_ua_le (zs_tA T) i
                        have hL4 : (zs_tC T).1 0 4 0 ≤ 160000 * 2000 := by rw [eC]; have h9 := hL.2; have h8 : (zs_t0 T).1 0 4 0 = T.1 0 4 0 := rfl; omega
                        have hIs : zs_I (za_N (zs_tC T) 0 4 0 ((zs_tC T).1 0 4 0 + zs_ua (zs_tA T) i)) := zs_I_sent tF.iC (by omega)
                        refine lv_iload_n hx hb dX7_tickPasses_137 rfl (lv_at hl 1 rfl) ?_
                        refine lv_aload_n hx hb dX7_tickPasses_138 rfl (lv_at hl 0 rfl) ?_
                        refine zg_MO_people hx hb hts hinX7 hown hf70 hK hG (n := T.1 0 0 0) eC0 dX7_tickPasses_139 ?_
                        refine zb_icmp_ge (x := i) (y := T.1 0 0 0) (tgt := 166) hx hb (by omega) (by have := hBT 0 0 0; omega) dX7_tickPasses_142 (by decide) (fun c_142 => ?_) (fun c_142 => ?_)
                        · obtain rfl : i = T.1 0 0 0 := by omega
                          have e9 : zs_ua (zs_tA T) (T.1 0 0 0) = zs_ua (zs_tA T) 10 := by rw [← eA0]; exact zs_ua_10 (by omega)
                          rw [e9] at hG
                          exact zm_vret hx hb hr hlocks hG hS (by omega) (by omega) ⟨Y1, rfl, hfy⟩ dX7_tickPasses_166
                        · refine lv_aload_n hx hb dX7_tickPasses_145 rfl (lv_at hl 0 rfl) ?_
                          refine lv_dup hx hb dX7_tickPasses_146 rfl ?_
                          refine zg_MO_sent hx hb hts hinX7 hown hf124 hK hG (n := (zs_tC T).1 0 4 0 + zs_ua (zs_tA T) i) (za_Ns _ _ _ _ _) dX7_tickPasses_147 ?_
                          refine lv_aload_n hx hb dX7_tickPasses_150 rfl (lv_at hl 0 rfl) ?_
                          refine lv_iload_n hx hb dX7_tickPasses_151 rfl (lv_at hl 1 rfl) ?_
                          refine zc_Vi (As := [.int (nI i)]) (rest := [.long (lN ((zs_tC T).1 0 4 0 + zs_ua (zs_tA T) i)), .ref (ad 14 0)]) hK hZ hb0 hG hS hx hb hml hown hts (c_X7_uses l i hIs (show i < (zs_tC T).1 0 0 0 by omega) hfy.2) (cwV 1 hts gX7_tickPasses_X7_uses rfl rfl rfl (by decide +kernel) ⟨Nat.le_of_ble_eq_true rfl, Nat.le_of_ble_eq_true rfl⟩) (za_recv (q := (RX7, TX7, 25)) hK hG 14 0 ⟨by omega, rfl⟩ rfl rfl rfl) rfl hl rfl (Nat.le_of_ble_eq_true rfl) dX7_tickPasses_152 ⟨Nat.le_of_ble_eq_true rfl, Nat.le_of_ble_eq_true rfl⟩ (fun r_152 u_152 H locs hp hG hS => ?_)
                          obtain ⟨rfl, Y2, rfl, q2, -⟩ := hp
                          have eus : zs_us (za_N (zs_tC T) 0 4 0 ((zs_tC T).1 0 4 0 + zs_ua (zs_tA T) i)) i = zs_us (zs_tA T) i := by unfold zs_us; rw [(tF.sC.tr (zs_se_u (zs_tC T) _)).ch]
                          rw [eus]
                          have hus := zs_us_le (zs_tA T) i
                          have eua : zs_ua (zs_tA T) (i + 1) = zs_ua (zs_tA T) i + zs_us (zs_tA T) i := by show zs_sum _ (i + 1) = _; rw [zs_sum, if_pos (by omega)]; rfl
                          refine zb_i2l hx hb (by omega) dX7_tickPasses_155 ?_
                          refine zb_ladd hx hb dX7_tickPasses_156 ?_
                          refine zp_MO_sent hx hb hts hinX7 hown hf124 hS hK hG dX7_tickPasses_157 (fun H locs hG hS => ?_)
                          refine zb_iinc (n := 1) (k := 1) (lv' := [(1, .int (nI (i + 1))), (0, .ref (ad 14 0))]) hx hb dX7_tickPasses_160 hl rfl (by decide) (by decide) rfl (fun ls hl => ?_)
                          refine zb_goto (tgt := 137) hx hb dX7_tickPasses_163 (by decide) ?_
                          exact ih137 Y2 (i + 1) (by omega) ⟨q2.1.trans hfy.1, q2.2⟩ (by omega) _ _ (by rw [eua]; exact za_eqG (congrArg (fun z => (ad, S, X, z, Y2, ow, dw)) (zs_sx (Nat.add_assoc _ _ _))) hG) hS ls (lv_sub hl [1, 0] rfl)
                    exact loop137 (_ + 1) Y 0 (Nat.zero_le _) ⟨rfl, hBY⟩ (Nat.lt_succ_self _) _ _ (by rw [show za_N (zs_tC T) 0 4 0 ((zs_tC T).1 0 4 0 + zs_ua (zs_tA T) 0) = zs_tC T from za_Nid _ _ _ _ _ rfl]; exact hG) hS ls (lv_sub hl [1, 0] rfl)
                  · refine lv_aload_n hx hb dX7_tickPasses_72 rfl (lv_at hl 0 rfl) ?_
                    refine zg_MO_stopped hx hb hts hinX7 hown hf50 hK hG dX7_tickPasses_73 ?_
                    refine lv_iload_n hx hb dX7_tickPasses_76 rfl (lv_at hl 1 rfl) ?_
                    refine zld_MQ (n := (zs_nt (zs_tB T) i).1 8 i 0) hx hb hK hG (by omega) rfl dX7_tickPasses_77 ?_
                    refine zb_if_ne (x := (zs_nt (zs_tB T) i).1 8 i 0) (tgt := 119) hx hb (by have := hI3.B 8 i 0; omega) dX7_tickPasses_78 (by decide) (fun c_78 => ?_) (fun c_78 => ?_)
                    · have hst : ¬ (zs_tB T).1 8 i 0 = 0 := by rw [← e1 8 (by decide)]; exact c_78
                      refine zb_iinc (n := 1) (k := 1) (lv' := [(1, .int (nI (i + 1))), (0, .ref (ad 14 0))]) hx hb dX7_tickPasses_119 hl rfl (by decide) (by decide) rfl (fun ls hl => ?_)
                      refine zb_goto (tgt := 64) hx hb dX7_tickPasses_122 (by decide) ?_
                      exact ih64 (i + 1) (by omega) (by omega) _ _ (by rw [zs_nt_n (fun z => hst z.2)]; exact hG) hS ls (lv_sub hl [1, 0] rfl)
                    · have hst : (zs_tB T).1 8 i 0 = 0 := by rw [← e1 8 (by decide)]; exact c_78
                      have hn9 : (zs_nt (zs_tB T) i).1 7 i 0 < 2000 := by
                        rw [e7 i (Nat.le_refl _)]
                        have h8 := tF.nB i (by omega)
                        have h9 := tF.iB.t.1
                        omega
                      have hf9 : (zs_nt (zs_tB T) i).1 9 i 0 < T.1 0 1 0 := by rw [← e01]; exact hI3.fo (by omega)
                      refine lv_aload_n hx hb dX7_tickPasses_81 rfl (lv_at hl 0 rfl) ?_
                      refine zg_MO_note hx hb hts hinX7 hown hf57 hK hG dX7_tickPasses_82 ?_
                      refine zb_sipush (n := 2000) hx hb dX7_tickPasses_85 (by decide) ?_
                      refine lv_iload_n hx hb dX7_tickPasses_88 rfl (lv_at hl 1 rfl) ?_
                      refine zb_imul hx hb dX7_tickPasses_89 ?_
                      refine lv_aload_n hx hb dX7_tickPasses_90 rfl (lv_at hl 0 rfl) ?_
                      refine zg_MO_notes hx hb hts hinX7 hown hf54 hK hG dX7_tickPasses_91 ?_
                      refine lv_iload_n hx hb dX7_tickPasses_94 rfl (lv_at hl 1 rfl) ?_
                      refine zld_MN (n := (zs_nt (zs_tB T) i).1 7 i 0) hx hb hK hG (by omega) rfl dX7_tickPasses_95 ?_
                      refine zb_iadd hx hb dX7_tickPasses_96 ?_
                      refine lv_aload_n hx hb dX7_tickPasses_97 rfl (lv_at hl 0 rfl) ?_
                      refine zg_MO_speakers hx hb hts hinX7 hown hf35 hK hG dX7_tickPasses_98 ?_
                      refine lv_aload_n hx hb dX7_tickPasses_101 rfl (lv_at hl 0 rfl) ?_
                      refine zg_MO_follow hx hb hts hinX7 hown hf47 hK hG dX7_tickPasses_102 ?_
                      refine lv_iload_n hx hb dX7_tickPasses_105 rfl (lv_at hl 1 rfl) ?_
                      refine zld_MF (n := (zs_nt (zs_tB T) i).1 9 i 0) hx hb hK hG (by omega) rfl dX7_tickPasses_106 ?_
                      refine zld_MK (r := (zs_nt (zs_tB T) i).2 3 ((zs_nt (zs_tB T) i).1 9 i 0) 0) hx hb hK hG (by omega) rfl dX7_tickPasses_107 ?_
                      refine zst_MV hx hb hK hG hS (r := i) (q := (zs_nt (zs_tB T) i).1 7 i 0) (by omega) (by omega) dX7_tickPasses_108 (fun H locs hG hS => ?_)
                      refine lv_aload_n hx hb dX7_tickPasses_109 rfl (lv_at hl 0 rfl) ?_
                      refine zg_MO_notes hx hb hts hinX7 hown hf54 hK hG dX7_tickPasses_110 ?_
                      refine lv_iload_n hx hb dX7_tickPasses_113 rfl (lv_at hl 1 rfl) ?_
                      refine lv_dup2_11 hx hb dX7_tickPasses_114 rfl rfl ?_
                      refine zld_MN (n := (zs_nt (zs_tB T) i).1 7 i 0) hx hb hK hG (by omega) rfl dX7_tickPasses_115 ?_
                      refine zb_iconst (n := 1) hx hb dX7_tickPasses_116 (by decide) ?_
                      refine zb_iadd hx hb dX7_tickPasses_117 ?_
                      refine zst_MN hx hb hK hG hS (by omega) dX7_tickPasses_118 (fun H locs hG hS => ?_)
                      refine zb_iinc (n := 1) (k := 1) (lv' := [(1, .int (nI (i + 1))), (0, .ref (ad 14 0))]) hx hb dX7_tickPasses_119 hl rfl (by decide) (by decide) rfl (fun ls hl => ?_)
                      refine zb_goto (tgt := 64) hx hb dX7_tickPasses_122 (by decide) ?_
                      exact ih64 (i + 1) (by omega) (by omega) _ _ (by rw [zs_nt_y ⟨show i < (zs_tB T).1 0 2 0 by omega, hst⟩, ← zs_put_u, ← e2 3 (by decide), ← e1 9 (by decide)]; exact hG) hS ls (lv_sub hl [1, 0] rfl)
              exact loop64 (_ + 1) 0 (Nat.zero_le _) (Nat.lt_succ_self _) _ _ hG hS ls (lv_sub hl [1, 0] rfl)
            · refine lv_aload_n hx hb dX7_tickPasses_31 rfl (lv_at hl 0 rfl) ?_
              refine zg_MO_speakers hx hb hts hinX7 hown hf35 hK hG dX7_tickPasses_32 ?_
              refine lv_iload_n hx hb dX7_tickPasses_35 rfl (lv_at hl 1 rfl) ?_
              refine zld_MK (r := (zs_ta (zs_tA T) i).2 3 i 0) hx hb hK hG (by omega) rfl dX7_tickPasses_36 ?_
              refine zb_iconstm hx hb dX7_tickPasses_37 ?_
              refine zb_ecmp_eq (tgt := 56) hx hb ((zs_ta (zs_tA T) i).2 3 i 0) none (fun x h => by have h8 := (hIt.sp (r := i) (by omega) h).1; omega) (by rintro _ ⟨⟩) dX7_tickPasses_38 (by decide) (fun c_38 => ?_) (fun c_38 => ?_)
              · skip
                refine zb_iinc (n := 1) (k := 1) (lv' := [(1, .int (nI (i + 1))), (0, .ref (ad 14 0))]) hx hb dX7_tickPasses_56 hl rfl (by decide) (by decide) rfl (fun ls hl => ?_)
                refine zb_goto (tgt := 23) hx hb dX7_tickPasses_59 (by decide) ?_
                exact ih23 (i + 1) (by omega) (by omega) _ _ (by rw [zs_ta_y (show i < (zs_tA T).1 0 1 0 by omega), zs_tk1_n c_38]; exact hG) hS ls (lv_sub hl [1, 0] rfl)
              · obtain ⟨y_38, hy_38⟩ := Option.ne_none_iff_exists'.mp c_38
                have hq10 : y_38 < 10 := by have h8 := (hIt.sp (r := i) (by omega) hy_38).1; omega
                refine lv_aload_n hx hb dX7_tickPasses_41 rfl (lv_at hl 0 rfl) ?_
                refine zg_MO_talks hx hb hts hinX7 hown hf25 hK hG dX7_tickPasses_42 ?_
                refine lv_aload_n hx hb dX7_tickPasses_45 rfl (lv_at hl 0 rfl) ?_
                refine zg_MO_speakers hx hb hts hinX7 hown hf35 hK hG dX7_tickPasses_46 ?_
                refine lv_iload_n hx hb dX7_tickPasses_49 rfl (lv_at hl 1 rfl) ?_
                refine zld_MK (r := some y_38) hx hb hK hG (by omega) hy_38 dX7_tickPasses_50 ?_
                refine lv_dup2_11 hx hb dX7_tickPasses_51 rfl rfl ?_
                refine zld_MT (n := (zs_ta (zs_tA T) i).1 4 y_38 0) hx hb hK hG (by omega) rfl dX7_tickPasses_52 ?_
                refine lv_lconst (v := lN 1) hx hb dX7_tickPasses_53 (by decide) ?_
                refine zb_ladd hx hb dX7_tickPasses_54 ?_
                refine zst_MT hx hb hK hG hS (by omega) dX7_tickPasses_55 (fun H locs hG hS => ?_)
                refine zb_iinc (n := 1) (k := 1) (lv' := [(1, .int (nI (i + 1))), (0, .ref (ad 14 0))]) hx hb dX7_tickPasses_56 hl rfl (by decide) (by decide) rfl (fun ls hl => ?_)
                refine zb_goto (tgt := 23) hx hb dX7_tickPasses_59 (by decide) ?_
                exact ih23 (i + 1) (by omega) (by omega) _ _ (by rw [zs_ta_y (show i < (zs_tA T).1 0 1 0 by omega), zs_tk1_s hy_38]; exact za_eqG (congrArg (fun z => (ad, S, X, z, Y, ow, dw)) zs_tku) hG) hS ls (lv_sub hl [1, 0] rfl)
        exact loop23 (_ + 1) 0 (Nat.zero_le _) (Nat.lt_succ_self _) _ _ hG hS ls (lv_sub hl [1, 0] rfl)
      · refine lv_aload_n hx hb dX7_tickPasses_10 rfl (lv_at hl 0 rfl) ?_
        refine lv_iload_n hx hb dX7_tickPasses_11 rfl (lv_at hl 1 rfl) ?_
        refine zc_Vv (As := [.int (nI i)]) (rest := []) hK hZ hb0 hG hS hx hb hml hown hts (c_X7_speaks l i (by omega) (hIi.sz i) (fun j hj => by obtain ⟨x, h1, h2, -⟩ := hIi.oc (r := i) (j := j) hj; exact ⟨x, h2, by omega⟩) (fun x hx => by rw [zs_cand_u] at hx; have h8 := (zs_cand_I hIi hx).1; omega) (fun x hx => by have h8 := (hIi.sp (r := i) (by omega) hx).1; omega) (fun x hx => by have h8 := hIi.ch (r := i) (by omega) hx; omega) (zs_tt_6b (S := zs_t0 T) h6 i i) (show (zs_tt (zs_t0 T) i).1.1 7 8 0 < 12000 by omega) (zs_N_B hIi.B (hBT 0 3 0))) (cwV 1 hts gX7_tickPasses_X7_speaks rfl rfl rfl (by decide +kernel) ⟨Nat.le_of_ble_eq_true rfl, Nat.le_of_ble_eq_true rfl⟩) (za_recv (q := (RX7, TX7, 25)) hK hG 14 0 ⟨by omega, rfl⟩ rfl rfl rfl) rfl hl rfl (Nat.le_of_ble_eq_true rfl) dX7_tickPasses_12 ⟨Nat.le_of_ble_eq_true rfl, Nat.le_of_ble_eq_true rfl⟩ (fun u_12 H locs hp hG hS => ?_)
        subst hp
        refine zb_iinc (n := 1) (k := 1) (lv' := [(1, .int (nI (i + 1))), (0, .ref (ad 14 0))]) hx hb dX7_tickPasses_15 hl rfl (by decide) (by decide) rfl (fun ls hl => ?_)
        refine zb_goto (tgt := 2) hx hb dX7_tickPasses_18 (by decide) ?_
        exact ih2 (i + 1) (by omega) (by omega) _ _ (by rw [zs_tt_y (show i < (zs_t0 T).1 0 1 0 from c_7)]; rw [zs_t1_u] at hG; exact hG) hS ls (lv_sub hl [1, 0] rfl)
  exact loop2 (_ + 1) 0 (Nat.zero_le _) (Nat.lt_succ_self _) _ _ (by rw [show zs_u (zs_tt (zs_t0 T) 0).1 (T.1 0 3 0) = T from (zs_u_u T _ _).trans (zs_u_i rfl)]; exact hG) hS ls (lv_sub hl [1, 0] rfl)
