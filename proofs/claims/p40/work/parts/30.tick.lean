
theorem zs_t0_se (S : za_S) : zs_se S (zs_t0 S) := by
  have h : ∀ c a d, ¬ (c = 0 ∧ a = 3 ∧ d = 0) → (zs_t0 S).1 c a d = S.1 c a d := fun c a d q => by
    unfold zs_t0
    rw [za_N1, if_neg q]
  exact ⟨funext fun a => funext fun d => h 1 a d (by omega), funext fun a => funext fun d => h 2 a d (by omega), funext fun a => funext fun d => h 5 a d (by omega), rfl, rfl, rfl, rfl, h 0 0 0 (by omega)⟩
theorem zs_put_se (S : za_S) (k : Nat) (v : Option Nat) : zs_se S (zs_put S k v) :=
  ⟨zs_put_1 S k v (by decide), zs_put_1 S k v (by decide), zs_put_1 S k v (by decide), zs_put_2 S k v (by decide), zs_put_2 S k v (by decide), zs_put_2 S k v (by decide), zs_put_2 S k v (by decide), by rw [zs_put_1 S k v (by decide)]⟩
set_option maxRecDepth 100000 in
set_option maxHeartbeats 4000000 in
theorem c_X6_passOneTick (l : Launch) {E : za_E} {b : Nat} {ad : za_Ad} {S X T Y : za_S} {ow : Int64} {dw : UInt64}  (hD : zs_D S X) (ht : S.1 0 3 0 < 2000) : Met l yX6_passOneTick wsX6_passOneTick ({ frames := 5, cells := zs_ce (zs_tick S) - zs_ce S, slots := zs_sl (zs_tick S) - zs_sl S, locals := 129 } : Room) (za_Pc E b (ad, S, X, T, Y, ow, dw) [.ref (ad 0 0)]) (za_Qv E b (fun u => ∃ X2, u = (ad, zs_tick S, X2, T, Y, ow, dw) ∧ zs_D (zs_tick S) X2)) (zs_ce (zs_tick S) - zs_ce S) (zs_sl (zs_tick S) - zs_sl S) (za_A b) := by
  refine zm_met (ccm := cX6_passOneTick) (maxL := 5) (ret := none) (ws' := _) (own := RX6) (lv := [(0, .ref (ad 0 0))]) (by decide) rfl rfl rfl (by simp [lg_sl, Value.category]) ?_
  intro pg en s m below meth c hx hb hml hr hown hts hlocks hK hZ hb0 hG hS ls hl
  have hf121 := hts (.fieldLink RX6 121 "VideoBridge$Recorder" "followed" "LVideoBridge$Room;") (by decide +kernel)
  have hf156 := hts (.fieldLink RX6 156 "VideoBridge" "ticksPassed" "I") (by decide +kernel)
  have hf165 := hts (.fieldLink RX6 165 "VideoBridge$Room" "speaker" "LVideoBridge$Person;") (by decide +kernel)
  have hf17 := hts (.fieldLink RX6 17 "VideoBridge" "allRooms" "[LVideoBridge$Room;") (by decide +kernel)
  have hf173 := hts (.fieldLink RX6 173 "VideoBridge$Person" "talked" "J") (by decide +kernel)
  have hf206 := hts (.fieldLink RX6 206 "VideoBridge" "sentSoFar" "J") (by decide +kernel)
  have hf216 := hts (.fieldLink RX6 216 "VideoBridge" "usedByAll" "J") (by decide +kernel)
  have hf23 := hts (.fieldLink RX6 23 "VideoBridge" "recorders" "[LVideoBridge$Recorder;") (by decide +kernel)
  have hf231 := hts (.fieldLink RX6 231 "VideoBridge$Recorder" "stopped" "Z") (by decide +kernel)
  have hf237 := hts (.fieldLink RX6 237 "VideoBridge$Recorder" "notes" "LVideoBridge$Row;") (by decide +kernel)
  have hinX6 : ∀ w ∈ u_ws RX6 TX6 11, w ∈ wsX6_passOneTick := by decide +kernel
  have hinX2 : ∀ w ∈ u_ws RX2 TX2 8, w ∈ wsX6_passOneTick := by decide +kernel
  have hinX3 : ∀ w ∈ u_ws RX3 TX3 3, w ∈ wsX6_passOneTick := by decide +kernel
  have hinX4 : ∀ w ∈ u_ws RX4 TX4 6, w ∈ wsX6_passOneTick := by decide +kernel
  skip
  obtain ⟨hI, hJ, hBX, hok, hRe, hL⟩ := hD
  have tF := zs_tick_f hI hL ht
  have hk1 := tF.k1
  have hk2 := tF.k2
  have hk3 := tF.k3
  have hk4 := tF.k4
  have hk5 := tF.k5
  have hk6 := tF.k6
  have hk7 : zs_ce (zs_tB S) ≤ zs_ce (zs_tC S) ∧ zs_sl (zs_tB S) ≤ zs_sl (zs_tC S) := zs_nt_mo tF.iB tF.nB (i := 0) (j := 8) (Nat.zero_le _) (Nat.le_refl _)
  obtain ⟨hk7, hk8⟩ := hk7
  have hJ0 : zs_J (zs_t0 S) X := zs_J_3 hJ rfl rfl rfl
  have hR8 : X.1 4 8 0 = zl_len 8 ((zs_t0 S).1 7 8 0) := hRe 8 (Or.inr rfl)
  have hbl := zs_bl (zs_tt (zs_t0 S) 6).2
  refine lv_aload_n hx hb dX6_passOneTick_0 rfl (lv_at hl 0 rfl) ?_
  refine lv_dup hx hb dX6_passOneTick_1 rfl ?_
  refine zg_BR_ticksPassed hx hb hts hinX6 hown hf156 hK hG (n := S.1 0 3 0) rfl dX6_passOneTick_2 ?_
  refine zb_iconst (n := 1) hx hb dX6_passOneTick_5 (by decide) ?_
  refine zb_iadd hx hb dX6_passOneTick_6 ?_
  refine zp_BR_ticksPassed hx hb hts hinX6 hown hf156 hS hK hG dX6_passOneTick_7 (fun H locs hG hS => ?_)
  have hG : za_G E b (ad, zs_t0 S, X, T, Y, ow, dw) H := hG
  refine lv_aload_n hx hb dX6_passOneTick_10 rfl (lv_at hl 0 rfl) ?_
  refine zc_Vi (As := []) (rest := []) hK hZ hb0 hG hS hx hb hml hown hts (c_X6_takeTurns l hJ0 tF.i0 tF.hT hBX hR8) (cwV 0 hts gX6_passOneTick_X6_takeTurns rfl rfl rfl (by decide +kernel) ⟨Nat.le_of_ble_eq_true rfl, Nat.le_of_ble_eq_true rfl⟩) (za_recv (q := (RX6, TX6, 11)) hK hG 0 0 ⟨by omega, rfl⟩ rfl rfl rfl) rfl hl rfl (Nat.le_of_ble_eq_true rfl) dX6_passOneTick_11 ⟨by show 0 + (zl_ce 8 ((zs_tA S).1 7 8 0) - zl_ce 8 (S.1 7 8 0)) ≤ zs_ce (zs_tick S) - zs_ce S; omega, by show 0 + (zl_sl 8 ((zs_tA S).1 7 8 0) - zl_sl 8 (S.1 7 8 0)) ≤ zs_sl (zs_tick S) - zs_sl S; omega⟩ (fun r_11 u_11 H locs hp hG hS => ?_)
  obtain ⟨rfl, X1, rfl, hX1⟩ := hp
  have hG : za_G E b (ad, zs_tA S, X1, T, Y, ow, dw) H := hG
  have hJ1 : zs_J (zs_tA S) X1 := zl_X_J hX1 (zs_J_c hJ0 tF.cA)
  have hB1 : zs_B X1 := zl_X_B hX1 hBX (by have h9 := zl_le 8 ((zs_tA S).1 7 8 0); show zl_len 8 ((zs_tA S).1 7 8 0) < _; omega)
  have hR1 : zs_Re (zs_tA S) X1 := fun k hk => by
    by_cases q : k = 8
    · subst q
      exact hX1.1
    · rw [hX1.2.1 4 k 0 (by omega), tF.a7 k q]
      refine hRe k (Or.inl ?_)
      rcases hk with h | h
      · rw [tF.cA] at h
        exact h
      · exact absurd h q
  refine zw_cs (cells' := zs_ce (zs_tA S) - zs_ce S) (slots' := zs_sl (zs_tA S) - zs_sl S) (by show 0 + (zl_ce 8 ((zs_tA S).1 7 8 0) - zl_ce 8 (S.1 7 8 0)) = _; omega) (by show 0 + (zl_sl 8 ((zs_tA S).1 7 8 0) - zl_sl 8 (S.1 7 8 0)) = _; omega) ?_
  refine zb_if_eq (x := if (zs_tt (zs_t0 S) 6).2 = true then 1 else 0) (tgt := 21) hx hb (by omega) dX6_passOneTick_14 (by decide) (fun c_14 => ?_) (fun c_14 => ?_)
  · have hJc := hJ1
    have hBc := hB1
    have hRc := hR1
    have hokc : zs_ok (zs_tA S) X1 := zl_X_ok hX1 ((zs_tt_ns (zs_b0 c_14)).ok ((zs_t0_se S).ok hok))
    refine lv_aload_n hx hb dX6_passOneTick_21 rfl (lv_at hl 0 rfl) ?_
    refine zg_BR_allRooms hx hb hts hinX6 hown hf17 hK hG dX6_passOneTick_22 ?_
    refine lv_astore_n (lv' := [(1, .ref (ad 2 0)), (0, .ref (ad 0 0))]) hx hb dX6_passOneTick_25 rfl hl (by decide) rfl (fun ls hl => ?_)
    refine lv_aload_n hx hb dX6_passOneTick_26 rfl (lv_at hl 0 rfl) ?_
    refine zl_AR hx hb hK hG dX6_passOneTick_27 ?_
    refine lv_istore_n (lv' := [(2, .int (nI 6)), (1, .ref (ad 2 0)), (0, .ref (ad 0 0))]) hx hb dX6_passOneTick_28 rfl hl (by decide) rfl (fun ls hl => ?_)
    refine zb_iconst (n := 0) hx hb dX6_passOneTick_29 (by decide) ?_
    refine lv_istore_n (lv' := [(3, .int (nI 0)), (2, .int (nI 6)), (1, .ref (ad 2 0)), (0, .ref (ad 0 0))]) hx hb dX6_passOneTick_30 rfl hl (by decide) rfl (fun ls hl => ?_)
    have loop31 : ∀ (N : Nat) (i : Nat), (i ≤ 6) → 6 - i < N → ∀ (H : Heap) (locs : List Loc), za_G E b (ad, (zs_ta (zs_tA S) i), X1, T, Y, ow, dw) H → va_S (za_A b) s.heap H locs → ∀ ls : Array Slot, lv_has ls 5 [(0, .ref (ad 0 0)), (1, .ref (ad 2 0)), (2, .int (nI 6)), (3, .int (nI i))] → W pg l en ({ frames := 5, cells := zs_ce (zs_tick S) - zs_ce S, slots := zs_sl (zs_tick S) - zs_sl S, locals := 129 } : Room) s m ([.ref (ad 0 0)] : List Value).toArray below meth c H locs (zs_ce (zs_tA S) - zs_ce S) (zs_sl (zs_tA S) - zs_sl S) (MQ below (za_Qv E b (fun u => ∃ X2, u = (ad, zs_tick S, X2, T, Y, ow, dw) ∧ zs_D (zs_tick S) X2)) ([.ref (ad 0 0)] : List Value).toArray s (zs_ce (zs_tick S) - zs_ce S) (zs_sl (zs_tick S) - zs_sl S) (za_A b)) (F0 m 31 ls []) := by
      intro N
      induction N with
      | zero => intro i hi hN; exact absurd hN (Nat.not_lt_zero _)
      | succ N ih31 =>
        intro i hi hN H locs hG hS ls hl
        obtain ⟨hIt, ht2, ht1, -⟩ := zs_ta_f tF.iA tF.bA i
        have ht0 := ht1 0 (by decide)
        refine lv_iload_n hx hb dX6_passOneTick_31 rfl (lv_at hl 3 rfl) ?_
        refine lv_iload_n hx hb dX6_passOneTick_32 rfl (lv_at hl 2 rfl) ?_
        refine zb_icmp_ge (x := i) (y := 6) (tgt := 74) hx hb (by omega) (by omega) dX6_passOneTick_33 (by decide) (fun c_33 => ?_) (fun c_33 => ?_)
        · obtain rfl : i = 6 := by omega
          have hG : za_G E b (ad, zs_tB S, X1, T, Y, ow, dw) H := hG
          have hJb : zs_J (zs_tB S) X1 := zs_J_c hJc tF.b0
          have hokb : zs_ok (zs_tB S) X1 := (zs_ta_se tF.iA tF.bA 6).ok hokc
          have hRb : zs_Re (zs_tB S) X1 := fun k hk => by
            rw [tF.b7]
            exact hRc k (by rw [tF.b0] at hk; exact hk)
          refine lv_aload_n hx hb dX6_passOneTick_74 rfl (lv_at hl 0 rfl) ?_
          refine zg_BR_recorders hx hb hts hinX6 hown hf23 hK hG dX6_passOneTick_75 ?_
          refine lv_astore_n (lv' := [(1, .ref (ad 3 0)), (0, .ref (ad 0 0)), (2, .int (nI 6)), (3, .int (nI 6))]) hx hb dX6_passOneTick_78 rfl hl (by decide) rfl (fun ls hl => ?_)
          refine lv_aload_n hx hb dX6_passOneTick_79 rfl (lv_at hl 0 rfl) ?_
          refine zl_RC hx hb hK hG dX6_passOneTick_80 ?_
          refine lv_istore_n (lv' := [(2, .int (nI 8)), (1, .ref (ad 3 0)), (0, .ref (ad 0 0)), (3, .int (nI 6))]) hx hb dX6_passOneTick_81 rfl hl (by decide) rfl (fun ls hl => ?_)
          refine zb_iconst (n := 0) hx hb dX6_passOneTick_82 (by decide) ?_
          refine lv_istore_n (lv' := [(3, .int (nI 0)), (2, .int (nI 8)), (1, .ref (ad 3 0)), (0, .ref (ad 0 0))]) hx hb dX6_passOneTick_83 rfl hl (by decide) rfl (fun ls hl => ?_)
          have loop84 : ∀ (N : Nat) (i : Nat) (X3 : za_S), (i ≤ 8) → (zs_J (zs_nt (zs_tB S) i) X3) → (zs_B X3) → (zs_ok (zs_nt (zs_tB S) i) X3) → (zs_Re (zs_nt (zs_tB S) i) X3) → 8 - i < N → ∀ (H : Heap) (locs : List Loc), za_G E b (ad, (zs_nt (zs_tB S) i), X3, T, Y, ow, dw) H → va_S (za_A b) s.heap H locs → ∀ ls : Array Slot, lv_has ls 5 [(0, .ref (ad 0 0)), (1, .ref (ad 3 0)), (2, .int (nI 8)), (3, .int (nI i))] → W pg l en ({ frames := 5, cells := zs_ce (zs_tick S) - zs_ce S, slots := zs_sl (zs_tick S) - zs_sl S, locals := 129 } : Room) s m ([.ref (ad 0 0)] : List Value).toArray below meth c H locs (zs_ce (zs_nt (zs_tB S) i) - zs_ce S) (zs_sl (zs_nt (zs_tB S) i) - zs_sl S) (MQ below (za_Qv E b (fun u => ∃ X2, u = (ad, zs_tick S, X2, T, Y, ow, dw) ∧ zs_D (zs_tick S) X2)) ([.ref (ad 0 0)] : List Value).toArray s (zs_ce (zs_tick S) - zs_ce S) (zs_sl (zs_tick S) - zs_sl S) (za_A b)) (F0 m 84 ls []) := by
            intro N
            induction N with
            | zero => intro i X3 hi hJ3 hB3 hok3 hR3 hN; exact absurd hN (Nat.not_lt_zero _)
            | succ N ih84 =>
              intro i X3 hi hJ3 hB3 hok3 hR3 hN H locs hG hS ls hl
              obtain ⟨hI3, e1, e2, e7⟩ := zs_nt_f tF.iB tF.nB i hi
              have e0 := e1 0 (by decide)
              obtain ⟨hm1, hm2⟩ : zs_ce (zs_nt (zs_tB S) i) ≤ zs_ce (zs_tC S) ∧ zs_sl (zs_nt (zs_tB S) i) ≤ zs_sl (zs_tC S) := zs_nt_mo tF.iB tF.nB hi (Nat.le_refl 8)
              obtain ⟨hn1, hn2⟩ : zs_ce (zs_tB S) ≤ zs_ce (zs_nt (zs_tB S) i) ∧ zs_sl (zs_tB S) ≤ zs_sl (zs_nt (zs_tB S) i) := zs_nt_mo tF.iB tF.nB (i := 0) (Nat.zero_le _) hi
              refine lv_iload_n hx hb dX6_passOneTick_84 rfl (lv_at hl 3 rfl) ?_
              refine lv_iload_n hx hb dX6_passOneTick_85 rfl (lv_at hl 2 rfl) ?_
              refine zb_icmp_ge (x := i) (y := 8) (tgt := 132) hx hb (by omega) (by omega) dX6_passOneTick_86 (by decide) (fun c_86 => ?_) (fun c_86 => ?_)
              · obtain rfl : i = 8 := by omega
                have hG : za_G E b (ad, zs_tC S, X3, T, Y, ow, dw) H := hG
                have hq1 : zs_ce (zs_nt (zs_tB S) 8) = zs_ce (zs_tC S) := rfl
                have hq2 : zs_sl (zs_nt (zs_tB S) 8) = zs_sl (zs_tC S) := rfl
                refine lv_aload_n hx hb dX6_passOneTick_132 rfl (lv_at hl 0 rfl) ?_
                refine lv_dup hx hb dX6_passOneTick_133 rfl ?_
                refine zg_BR_sentSoFar hx hb hts hinX6 hown hf206 hK hG (n := (zs_tC S).1 0 4 0) rfl dX6_passOneTick_134 ?_
                refine lv_aload_n hx hb dX6_passOneTick_137 rfl (lv_at hl 0 rfl) ?_
                refine zg_BR_usedByAll hx hb hts hinX6 hown hf216 hK hG (n := X3.1 3 0 0) rfl dX6_passOneTick_138 ?_
                refine zb_ladd hx hb dX6_passOneTick_141 ?_
                refine zp_BR_sentSoFar hx hb hts hinX6 hown hf206 hS hK hG dX6_passOneTick_142 (fun H locs hG hS => ?_)
                have eu : X3.1 3 0 0 = zs_ua (zs_tA S) 10 := hok3.2.trans (tF.sC.ua 10)
                have eT : za_N (zs_tC S) 0 4 0 ((zs_tC S).1 0 4 0 + X3.1 3 0 0) = zs_tick S := by rw [eu]; rfl
                have hR4 : zs_Re (zs_tick S) X3 := fun k hk => by
                  rw [zs_tick_1 S 7 k 0 (by omega)]
                  exact hR3 k (by rw [zs_tick_1 S 0 2 0 (by omega)] at hk; exact hk)
                have hD4 : zs_D (zs_tick S) X3 := ⟨tF.iT, zs_J_3 hJ3 (zs_tick_1 S 0 0 0 (by omega)) (zs_tick_1 S 0 1 0 (by omega)) (zs_tick_1 S 0 2 0 (by omega)), hB3, tF.sT.ok hok3, hR4, tF.lT⟩
                exact zm_vret hx hb hr hlocks hG hS (by omega) (by omega) ⟨X3, by rw [eT], hD4⟩ dX6_passOneTick_145
              · refine lv_aload_n hx hb dX6_passOneTick_89 rfl (lv_at hl 1 rfl) ?_
                refine lv_iload_n hx hb dX6_passOneTick_90 rfl (lv_at hl 3 rfl) ?_
                refine zld_RC (r := X3.2 3 i 0) hx hb hK hG (by omega) rfl dX6_passOneTick_91 ?_
                refine zb_ostore (ad := ad) (κ := 11) (r := X3.2 3 i 0) (lv' := [(4, za_o ad 11 (X3.2 3 i 0)), (0, .ref (ad 0 0)), (1, .ref (ad 3 0)), (2, .int (nI 8)), (3, .int (nI i))]) hx hb dX6_passOneTick_92 hl (by decide) rfl (fun ls hl => ?_)
                refine zb_oload hx hb dX6_passOneTick_94 (lv_at hl 0 rfl) ?_
                refine zb_ifnull (κ := 11) (r := X3.2 3 i 0) (tgt := 126) hx hb dX6_passOneTick_96 (by decide) (fun c_96 => ?_) (fun x_1 c_96 => ?_)
                · rw [c_96] at hl
                  refine zb_iinc (n := 1) (k := 4) (lv' := [(3, .int (nI (i + 1))), (4, .null), (0, .ref (ad 0 0)), (1, .ref (ad 3 0)), (2, .int (nI 8))]) hx hb dX6_passOneTick_126 hl rfl (by decide) (by decide) rfl (fun ls hl => ?_)
                  refine zb_goto (tgt := 84) hx hb dX6_passOneTick_129 (by decide) ?_
                  have eN : zs_nt (zs_tB S) (i + 1) = zs_nt (zs_tB S) i := zs_nt_n (fun h => hJ3.kn c_96 (by rw [e0]; exact h.1))
                  refine zw_cs (cells' := zs_ce (zs_nt (zs_tB S) (i + 1)) - zs_ce S) (slots' := zs_sl (zs_nt (zs_tB S) (i + 1)) - zs_sl S) (by rw [eN]) (by rw [eN]) ?_
                  exact ih84 (i + 1) X3 (by omega) (by rw [eN]; exact hJ3) hB3 (by rw [eN]; exact hok3) (by rw [eN]; exact hR3) (by omega) _ _ (by rw [eN]; exact hG) hS ls (lv_sub hl [2, 3, 4, 0] rfl)
                · rw [c_96] at hl
                  have hyi : x_1 = i := (hJ3.k c_96).1
                  have hin3 : i < (zs_nt (zs_tB S) i).1 0 2 0 := (hJ3.k c_96).2
                  have hin : i < (zs_tB S).1 0 2 0 := by rw [← e0]; exact hin3
                  have hf : (zs_nt (zs_tB S) i).1 9 i 0 < (zs_nt (zs_tB S) i).1 0 1 0 := hI3.fo hin3
                  rw [hyi] at hl
                  have hv_2 : ∀ z, X3.2 3 i 0 = some z → z < X3.1 5 2 0 := (hJ3.kv i)
                  refine lv_aload hx hb dX6_passOneTick_99 (lv_at hl 0 rfl) ?_
                  refine zg_RE_stopped hx hb hts hinX3 hown hf231 hK hG i (hJ3.re hin3) (n := (zs_nt (zs_tB S) i).1 8 i 0) rfl dX6_passOneTick_101 ?_
                  refine zb_if_ne (x := (zs_nt (zs_tB S) i).1 8 i 0) (tgt := 126) hx hb (by have := hI3.B 8 i 0; omega) dX6_passOneTick_104 (by decide) (fun c_104 => ?_) (fun c_104 => ?_)
                  · refine zb_iinc (n := 1) (k := 4) (lv' := [(3, .int (nI (i + 1))), (4, .ref (ad 11 i)), (0, .ref (ad 0 0)), (1, .ref (ad 3 0)), (2, .int (nI 8))]) hx hb dX6_passOneTick_126 hl rfl (by decide) (by decide) rfl (fun ls hl => ?_)
                    refine zb_goto (tgt := 84) hx hb dX6_passOneTick_129 (by decide) ?_
                    have eN : zs_nt (zs_tB S) (i + 1) = zs_nt (zs_tB S) i := zs_nt_n (fun h => by have h9 := c_104; rw [e1 8 (by decide)] at h9; omega)
                    refine zw_cs (cells' := zs_ce (zs_nt (zs_tB S) (i + 1)) - zs_ce S) (slots' := zs_sl (zs_nt (zs_tB S) (i + 1)) - zs_sl S) (by rw [eN]) (by rw [eN]) ?_
                    exact ih84 (i + 1) X3 (by omega) (by rw [eN]; exact hJ3) hB3 (by rw [eN]; exact hok3) (by rw [eN]; exact hR3) (by omega) _ _ (by rw [eN]; exact hG) hS ls (lv_sub hl [2, 3, 4, 0] rfl)
                  · have hi8 : i < 8 := by omega
                    have hst : (zs_tB S).1 8 i 0 = 0 := by have h9 := c_104; rw [e1 8 (by decide)] at h9; omega
                    have eT : zs_nt (zs_tB S) (i + 1) = zs_put (zs_nt (zs_tB S) i) i ((zs_nt (zs_tB S) i).2 3 ((zs_nt (zs_tB S) i).1 9 i 0) 0) := by
                      rw [zs_nt_y ⟨hin, hst⟩, e1 9 (by decide), e2 3 (by decide)]
                    obtain ⟨d7, dc, ds⟩ := zs_nt_co tF.iB tF.nB hi8 ⟨hin, hst⟩
                    obtain ⟨hp1, hp2⟩ : zs_ce (zs_nt (zs_tB S) (i + 1)) ≤ zs_ce (zs_tC S) ∧ zs_sl (zs_nt (zs_tB S) (i + 1)) ≤ zs_sl (zs_tC S) := zs_nt_mo tF.iB tF.nB (by omega) (Nat.le_refl 8)
                    have hlim : (zs_nt (zs_tB S) i).1 7 i 0 < zl_lim i := by
                      have h1 := tF.nB i hi8
                      have h2 := tF.iB.t.1
                      rw [e7 i (Nat.le_refl _)]
                      unfold zl_lim
                      rw [if_neg (by omega)]
                      omega
                    refine lv_aload hx hb dX6_passOneTick_107 (lv_at hl 0 rfl) ?_
                    refine zg_RE_notes hx hb hts hinX3 hown hf237 hK hG i (hJ3.re hin3) dX6_passOneTick_109 ?_
                    refine lv_aload hx hb dX6_passOneTick_112 (lv_at hl 0 rfl) ?_
                    refine zg_RE_followed hx hb hts hinX3 hown hf121 hK hG i (hJ3.re hin3) (n := (zs_nt (zs_tB S) i).1 9 i 0) rfl dX6_passOneTick_114 ?_
                    refine zg_RM_speaker hx hb hts hinX4 hown hf165 hK hG ((zs_nt (zs_tB S) i).1 9 i 0) (hJ3.ro hf) (r := (zs_nt (zs_tB S) i).2 3 ((zs_nt (zs_tB S) i).1 9 i 0) 0) rfl dX6_passOneTick_117 ?_
                    refine zc_Si (As := [za_o ad 8 ((zs_nt (zs_tB S) i).2 3 ((zs_nt (zs_tB S) i).1 9 i 0) 0)]) (rest := [.ref (ad 12 i)]) hK hZ hb0 hG hS hx hb hml hown hts (c_X6_numberOf l ((zs_nt (zs_tB S) i).2 3 ((zs_nt (zs_tB S) i).1 9 i 0) 0) (fun x hx => hJ3.pe (hI3.sp hf hx).1)) (cwS 1 hts gX6_passOneTick_X6_numberOf rfl rfl rfl (by decide +kernel) ⟨Nat.le_of_ble_eq_true rfl, Nat.le_of_ble_eq_true rfl⟩) rfl hl rfl (Nat.le_of_ble_eq_true rfl) dX6_passOneTick_120 ⟨by show zs_ce (zs_nt (zs_tB S) i) - zs_ce S + 0 ≤ zs_ce (zs_tick S) - zs_ce S; omega, by show zs_sl (zs_nt (zs_tB S) i) - zs_sl S + 0 ≤ zs_sl (zs_tick S) - zs_sl S; omega⟩ (fun r_120 u_120 H locs hp hG hS => ?_)
                    obtain ⟨rfl, rfl⟩ := hp
                    refine zc_Vv (As := [.int (za_enc ((zs_nt (zs_tB S) i).2 3 ((zs_nt (zs_tB S) i).1 9 i 0) 0))]) (rest := []) hK hZ hb0 hG hS hx hb hml hown hts (c_X5_put l i ((zs_nt (zs_tB S) i).2 3 ((zs_nt (zs_tB S) i).1 9 i 0) 0) (Or.inl (hJ3.re hin3)) (hR3 i (Or.inl hin3)) hlim (fun j hj => hI3.rz hj)) (cwV 1 hts gX6_passOneTick_X5_put rfl rfl rfl (by decide +kernel) ⟨Nat.le_of_ble_eq_true rfl, Nat.le_of_ble_eq_true rfl⟩) (za_recv (q := (RX5, TX5, 3)) hK hG 12 i (show i < X3.1 5 2 0 ∨ i = 8 from (Or.inl (hJ3.re hin3))) rfl rfl rfl) rfl hl rfl (Nat.le_of_ble_eq_true rfl) dX6_passOneTick_123 ⟨by show zs_ce (zs_nt (zs_tB S) i) - zs_ce S + 0 + (zl_ce i ((zs_nt (zs_tB S) i).1 7 i 0 + 1) - zl_ce i ((zs_nt (zs_tB S) i).1 7 i 0)) ≤ zs_ce (zs_tick S) - zs_ce S; omega, by show zs_sl (zs_nt (zs_tB S) i) - zs_sl S + 0 + (zl_sl i ((zs_nt (zs_tB S) i).1 7 i 0 + 1) - zl_sl i ((zs_nt (zs_tB S) i).1 7 i 0)) ≤ zs_sl (zs_tick S) - zs_sl S; omega⟩ (fun u_123 H locs hp hG hS => ?_)
                    obtain ⟨X4, rfl, q1⟩ := hp
                    refine zb_iinc (n := 1) (k := 4) (lv' := [(3, .int (nI (i + 1))), (4, .ref (ad 11 i)), (0, .ref (ad 0 0)), (1, .ref (ad 3 0)), (2, .int (nI 8))]) hx hb dX6_passOneTick_126 hl rfl (by decide) (by decide) rfl (fun ls hl => ?_)
                    refine zb_goto (tgt := 84) hx hb dX6_passOneTick_129 (by decide) ?_
                    have hJ4 : zs_J (zs_nt (zs_tB S) (i + 1)) X4 := by
                      rw [eT]
                      exact zl_X_J q1 (zs_J_c hJ3 (zs_put_1 _ _ _ (by decide)))
                    have hB4 : zs_B X4 := zl_X_B q1 hB3 (by have h9 := zl_le i ((zs_nt (zs_tB S) i).1 7 i 0 + 1); omega)
                    have hok4 : zs_ok (zs_nt (zs_tB S) (i + 1)) X4 := by
                      rw [eT]
                      exact zl_X_ok q1 ((zs_put_se _ _ _).ok hok3)
                    have hR4 : zs_Re (zs_nt (zs_tB S) (i + 1)) X4 := fun k hk => by
                      by_cases q : k = i
                      · subst q
                        rw [q1.1, d7]
                      · rw [q1.2.1 4 k 0 (by omega), eT, zs_put_7, if_neg q]
                        exact hR3 k (by rw [eT, zs_put_1 _ _ _ (by decide)] at hk; exact hk)
                    refine zw_cs (cells' := zs_ce (zs_nt (zs_tB S) (i + 1)) - zs_ce S) (slots' := zs_sl (zs_nt (zs_tB S) (i + 1)) - zs_sl S) (by omega) (by omega) ?_
                    exact ih84 (i + 1) X4 (by omega) hJ4 hB4 hok4 hR4 (by omega) _ _ (by rw [eT]; exact hG) hS ls (lv_sub hl [2, 3, 4, 0] rfl)
          refine zw_cs (cells' := zs_ce (zs_nt (zs_tB S) 0) - zs_ce S) (slots' := zs_sl (zs_nt (zs_tB S) 0) - zs_sl S) (by show zs_ce (zs_tA S) - zs_ce S = zs_ce (zs_tB S) - zs_ce S; omega) (by show zs_sl (zs_tA S) - zs_sl S = zs_sl (zs_tB S) - zs_sl S; omega) ?_
          exact loop84 (_ + 1) 0 X1 (Nat.zero_le _) hJb hBc hokb hRb (Nat.lt_succ_self _) _ _ hG hS ls (lv_sub hl [3, 2, 1, 0] rfl)
        · refine lv_aload_n hx hb dX6_passOneTick_36 rfl (lv_at hl 1 rfl) ?_
          refine lv_iload_n hx hb dX6_passOneTick_37 rfl (lv_at hl 3 rfl) ?_
          refine zld_AR (r := X1.2 2 i 0) hx hb hK hG (by omega) rfl dX6_passOneTick_38 ?_
          refine zb_ostore (ad := ad) (κ := 9) (r := X1.2 2 i 0) (lv' := [(4, za_o ad 9 (X1.2 2 i 0)), (0, .ref (ad 0 0)), (1, .ref (ad 2 0)), (2, .int (nI 6)), (3, .int (nI i))]) hx hb dX6_passOneTick_39 hl (by decide) rfl (fun ls hl => ?_)
          refine zb_oload hx hb dX6_passOneTick_41 (lv_at hl 0 rfl) ?_
          refine zb_ifnull (κ := 9) (r := X1.2 2 i 0) (tgt := 68) hx hb dX6_passOneTick_43 (by decide) (fun c_43 => ?_) (fun x_3 c_43 => ?_)
          · rw [c_43] at hl
            refine zb_iinc (n := 1) (k := 4) (lv' := [(3, .int (nI (i + 1))), (4, .null), (0, .ref (ad 0 0)), (1, .ref (ad 2 0)), (2, .int (nI 6))]) hx hb dX6_passOneTick_68 hl rfl (by decide) (by decide) rfl (fun ls hl => ?_)
            refine zb_goto (tgt := 31) hx hb dX6_passOneTick_71 (by decide) ?_
            exact ih31 (i + 1) (by omega) (by omega) _ _ (by rw [zs_ta_0 (zs_tA S) i (fun h => hJc.rn c_43 h)]; exact hG) hS ls (lv_sub hl [2, 3, 4, 0] rfl)
          · rw [c_43] at hl
            have hyi : x_3 = i := (hJc.r c_43).1
            have hin : i < (zs_tA S).1 0 1 0 := (hJc.r c_43).2
            rw [hyi] at hl
            have hv_4 : ∀ z, X1.2 2 i 0 = some z → z < X1.1 5 1 0 := (hJc.rv i)
            refine lv_aload hx hb dX6_passOneTick_46 (lv_at hl 0 rfl) ?_
            refine zg_RM_speaker hx hb hts hinX4 hown hf165 hK hG i (hJc.ro hin) (r := (zs_ta (zs_tA S) i).2 3 i 0) rfl dX6_passOneTick_48 ?_
            refine zb_ifnull (κ := 8) (r := (zs_ta (zs_tA S) i).2 3 i 0) (tgt := 68) hx hb dX6_passOneTick_51 (by decide) (fun c_51 => ?_) (fun x_5 c_51 => ?_)
            · refine zb_iinc (n := 1) (k := 4) (lv' := [(3, .int (nI (i + 1))), (4, .ref (ad 9 i)), (0, .ref (ad 0 0)), (1, .ref (ad 2 0)), (2, .int (nI 6))]) hx hb dX6_passOneTick_68 hl rfl (by decide) (by decide) rfl (fun ls hl => ?_)
              refine zb_goto (tgt := 31) hx hb dX6_passOneTick_71 (by decide) ?_
              exact ih31 (i + 1) (by omega) (by omega) _ _ (by rw [zs_ta_y hin, zs_tk1_n c_51]; exact hG) hS ls (lv_sub hl [2, 3, 4, 0] rfl)
            · have hv_6 : ∀ z, (zs_ta (zs_tA S) i).2 3 i 0 = some z → z < X1.1 5 0 0 := (fun x hx => hJc.pe (by have h9 := (hIt.sp (by rw [ht0]; exact hin) hx).1; rw [ht0] at h9; exact h9))
              refine lv_aload hx hb dX6_passOneTick_54 (lv_at hl 0 rfl) ?_
              refine zg_RM_speaker hx hb hts hinX4 hown hf165 hK hG i (hJc.ro hin) (r := some x_5) c_51 dX6_passOneTick_56 ?_
              refine lv_dup hx hb dX6_passOneTick_59 rfl ?_
              refine zg_PE_talked hx hb hts hinX2 hown hf173 hK hG x_5 (hv_6 x_5 c_51) (n := (zs_ta (zs_tA S) i).1 4 x_5 0) rfl dX6_passOneTick_60 ?_
              refine lv_lconst (v := lN 1) hx hb dX6_passOneTick_63 (by decide) ?_
              refine zb_ladd hx hb dX6_passOneTick_64 ?_
              refine zp_PE_talked hx hb hts hinX2 hown hf173 hS hK hG x_5 (hv_6 x_5 c_51) dX6_passOneTick_65 (fun H locs hG hS => ?_)
              refine zb_iinc (n := 1) (k := 4) (lv' := [(3, .int (nI (i + 1))), (4, .ref (ad 9 i)), (0, .ref (ad 0 0)), (1, .ref (ad 2 0)), (2, .int (nI 6))]) hx hb dX6_passOneTick_68 hl rfl (by decide) (by decide) rfl (fun ls hl => ?_)
              refine zb_goto (tgt := 31) hx hb dX6_passOneTick_71 (by decide) ?_
              exact ih31 (i + 1) (by omega) (by omega) _ _ (by rw [zs_ta_y hin, zs_tk1_s c_51]; exact hG) hS ls (lv_sub hl [2, 3, 4, 0] rfl)
    exact loop31 (_ + 1) 0 (Nat.zero_le _) (Nat.lt_succ_self _) _ _ hG hS ls (lv_sub hl [3, 2, 1, 0] rfl)
  · refine lv_aload_n hx hb dX6_passOneTick_17 rfl (lv_at hl 0 rfl) ?_
    refine zc_Vv (As := []) (rest := []) hK hZ hb0 hG hS hx hb hml hown hts (c_X6_chooseViews l hJ1 tF.iA.Va hB1 tF.iA.B) (cwV 0 hts gX6_passOneTick_X6_chooseViews rfl rfl rfl (by decide +kernel) ⟨Nat.le_of_ble_eq_true rfl, Nat.le_of_ble_eq_true rfl⟩) (za_recv (q := (RX6, TX6, 11)) hK hG 0 0 ⟨by omega, rfl⟩ rfl rfl rfl) rfl hl rfl (Nat.le_of_ble_eq_true rfl) dX6_passOneTick_18 ⟨by show zs_ce (zs_tA S) - zs_ce S + 0 ≤ zs_ce (zs_tick S) - zs_ce S; omega, by show zs_sl (zs_tA S) - zs_sl S + 0 ≤ zs_sl (zs_tick S) - zs_sl S; omega⟩ (fun u_18 H locs hp hG hS => ?_)
    obtain ⟨X2, rfl, q1, q2, q3, q4⟩ := hp
    have hJc := hJ1.fv q1
    have hBc := q2
    have hRc : zs_Re (zs_tA S) X2 := fun k hk => by
      rw [q1.1]
      exact hR1 k hk
    have hokc : zs_ok (zs_tA S) X2 := ⟨q3, q4⟩
    refine lv_aload_n hx hb dX6_passOneTick_21 rfl (lv_at hl 0 rfl) ?_
    refine zg_BR_allRooms hx hb hts hinX6 hown hf17 hK hG dX6_passOneTick_22 ?_
    refine lv_astore_n (lv' := [(1, .ref (ad 2 0)), (0, .ref (ad 0 0))]) hx hb dX6_passOneTick_25 rfl hl (by decide) rfl (fun ls hl => ?_)
    refine lv_aload_n hx hb dX6_passOneTick_26 rfl (lv_at hl 0 rfl) ?_
    refine zl_AR hx hb hK hG dX6_passOneTick_27 ?_
    refine lv_istore_n (lv' := [(2, .int (nI 6)), (1, .ref (ad 2 0)), (0, .ref (ad 0 0))]) hx hb dX6_passOneTick_28 rfl hl (by decide) rfl (fun ls hl => ?_)
    refine zb_iconst (n := 0) hx hb dX6_passOneTick_29 (by decide) ?_
    refine lv_istore_n (lv' := [(3, .int (nI 0)), (2, .int (nI 6)), (1, .ref (ad 2 0)), (0, .ref (ad 0 0))]) hx hb dX6_passOneTick_30 rfl hl (by decide) rfl (fun ls hl => ?_)
    have loop31 : ∀ (N : Nat) (i : Nat), (i ≤ 6) → 6 - i < N → ∀ (H : Heap) (locs : List Loc), za_G E b (ad, (zs_ta (zs_tA S) i), X2, T, Y, ow, dw) H → va_S (za_A b) s.heap H locs → ∀ ls : Array Slot, lv_has ls 5 [(0, .ref (ad 0 0)), (1, .ref (ad 2 0)), (2, .int (nI 6)), (3, .int (nI i))] → W pg l en ({ frames := 5, cells := zs_ce (zs_tick S) - zs_ce S, slots := zs_sl (zs_tick S) - zs_sl S, locals := 129 } : Room) s m ([.ref (ad 0 0)] : List Value).toArray below meth c H locs (zs_ce (zs_tA S) - zs_ce S) (zs_sl (zs_tA S) - zs_sl S) (MQ below (za_Qv E b (fun u => ∃ X2, u = (ad, zs_tick S, X2, T, Y, ow, dw) ∧ zs_D (zs_tick S) X2)) ([.ref (ad 0 0)] : List Value).toArray s (zs_ce (zs_tick S) - zs_ce S) (zs_sl (zs_tick S) - zs_sl S) (za_A b)) (F0 m 31 ls []) := by
      intro N
      induction N with
      | zero => intro i hi hN; exact absurd hN (Nat.not_lt_zero _)
      | succ N ih31 =>
        intro i hi hN H locs hG hS ls hl
        obtain ⟨hIt, ht2, ht1, -⟩ := zs_ta_f tF.iA tF.bA i
        have ht0 := ht1 0 (by decide)
        refine lv_iload_n hx hb dX6_passOneTick_31 rfl (lv_at hl 3 rfl) ?_
        refine lv_iload_n hx hb dX6_passOneTick_32 rfl (lv_at hl 2 rfl) ?_
        refine zb_icmp_ge (x := i) (y := 6) (tgt := 74) hx hb (by omega) (by omega) dX6_passOneTick_33 (by decide) (fun c_33 => ?_) (fun c_33 => ?_)
        · obtain rfl : i = 6 := by omega
          have hG : za_G E b (ad, zs_tB S, X2, T, Y, ow, dw) H := hG
          have hJb : zs_J (zs_tB S) X2 := zs_J_c hJc tF.b0
          have hokb : zs_ok (zs_tB S) X2 := (zs_ta_se tF.iA tF.bA 6).ok hokc
          have hRb : zs_Re (zs_tB S) X2 := fun k hk => by
            rw [tF.b7]
            exact hRc k (by rw [tF.b0] at hk; exact hk)
          refine lv_aload_n hx hb dX6_passOneTick_74 rfl (lv_at hl 0 rfl) ?_
          refine zg_BR_recorders hx hb hts hinX6 hown hf23 hK hG dX6_passOneTick_75 ?_
          refine lv_astore_n (lv' := [(1, .ref (ad 3 0)), (0, .ref (ad 0 0)), (2, .int (nI 6)), (3, .int (nI 6))]) hx hb dX6_passOneTick_78 rfl hl (by decide) rfl (fun ls hl => ?_)
          refine lv_aload_n hx hb dX6_passOneTick_79 rfl (lv_at hl 0 rfl) ?_
          refine zl_RC hx hb hK hG dX6_passOneTick_80 ?_
          refine lv_istore_n (lv' := [(2, .int (nI 8)), (1, .ref (ad 3 0)), (0, .ref (ad 0 0)), (3, .int (nI 6))]) hx hb dX6_passOneTick_81 rfl hl (by decide) rfl (fun ls hl => ?_)
          refine zb_iconst (n := 0) hx hb dX6_passOneTick_82 (by decide) ?_
          refine lv_istore_n (lv' := [(3, .int (nI 0)), (2, .int (nI 8)), (1, .ref (ad 3 0)), (0, .ref (ad 0 0))]) hx hb dX6_passOneTick_83 rfl hl (by decide) rfl (fun ls hl => ?_)
          have loop84 : ∀ (N : Nat) (i : Nat) (X3 : za_S), (i ≤ 8) → (zs_J (zs_nt (zs_tB S) i) X3) → (zs_B X3) → (zs_ok (zs_nt (zs_tB S) i) X3) → (zs_Re (zs_nt (zs_tB S) i) X3) → 8 - i < N → ∀ (H : Heap) (locs : List Loc), za_G E b (ad, (zs_nt (zs_tB S) i), X3, T, Y, ow, dw) H → va_S (za_A b) s.heap H locs → ∀ ls : Array Slot, lv_has ls 5 [(0, .ref (ad 0 0)), (1, .ref (ad 3 0)), (2, .int (nI 8)), (3, .int (nI i))] → W pg l en ({ frames := 5, cells := zs_ce (zs_tick S) - zs_ce S, slots := zs_sl (zs_tick S) - zs_sl S, locals := 129 } : Room) s m ([.ref (ad 0 0)] : List Value).toArray below meth c H locs (zs_ce (zs_nt (zs_tB S) i) - zs_ce S) (zs_sl (zs_nt (zs_tB S) i) - zs_sl S) (MQ below (za_Qv E b (fun u => ∃ X2, u = (ad, zs_tick S, X2, T, Y, ow, dw) ∧ zs_D (zs_tick S) X2)) ([.ref (ad 0 0)] : List Value).toArray s (zs_ce (zs_tick S) - zs_ce S) (zs_sl (zs_tick S) - zs_sl S) (za_A b)) (F0 m 84 ls []) := by
            intro N
            induction N with
            | zero => intro i X3 hi hJ3 hB3 hok3 hR3 hN; exact absurd hN (Nat.not_lt_zero _)
            | succ N ih84 =>
              intro i X3 hi hJ3 hB3 hok3 hR3 hN H locs hG hS ls hl
              obtain ⟨hI3, e1, e2, e7⟩ := zs_nt_f tF.iB tF.nB i hi
              have e0 := e1 0 (by decide)
              obtain ⟨hm1, hm2⟩ : zs_ce (zs_nt (zs_tB S) i) ≤ zs_ce (zs_tC S) ∧ zs_sl (zs_nt (zs_tB S) i) ≤ zs_sl (zs_tC S) := zs_nt_mo tF.iB tF.nB hi (Nat.le_refl 8)
              obtain ⟨hn1, hn2⟩ : zs_ce (zs_tB S) ≤ zs_ce (zs_nt (zs_tB S) i) ∧ zs_sl (zs_tB S) ≤ zs_sl (zs_nt (zs_tB S) i) := zs_nt_mo tF.iB tF.nB (i := 0) (Nat.zero_le _) hi
              refine lv_iload_n hx hb dX6_passOneTick_84 rfl (lv_at hl 3 rfl) ?_
              refine lv_iload_n hx hb dX6_passOneTick_85 rfl (lv_at hl 2 rfl) ?_
              refine zb_icmp_ge (x := i) (y := 8) (tgt := 132) hx hb (by omega) (by omega) dX6_passOneTick_86 (by decide) (fun c_86 => ?_) (fun c_86 => ?_)
              · obtain rfl : i = 8 := by omega
                have hG : za_G E b (ad, zs_tC S, X3, T, Y, ow, dw) H := hG
                have hq1 : zs_ce (zs_nt (zs_tB S) 8) = zs_ce (zs_tC S) := rfl
                have hq2 : zs_sl (zs_nt (zs_tB S) 8) = zs_sl (zs_tC S) := rfl
                refine lv_aload_n hx hb dX6_passOneTick_132 rfl (lv_at hl 0 rfl) ?_
                refine lv_dup hx hb dX6_passOneTick_133 rfl ?_
                refine zg_BR_sentSoFar hx hb hts hinX6 hown hf206 hK hG (n := (zs_tC S).1 0 4 0) rfl dX6_passOneTick_134 ?_
                refine lv_aload_n hx hb dX6_passOneTick_137 rfl (lv_at hl 0 rfl) ?_
                refine zg_BR_usedByAll hx hb hts hinX6 hown hf216 hK hG (n := X3.1 3 0 0) rfl dX6_passOneTick_138 ?_
                refine zb_ladd hx hb dX6_passOneTick_141 ?_
                refine zp_BR_sentSoFar hx hb hts hinX6 hown hf206 hS hK hG dX6_passOneTick_142 (fun H locs hG hS => ?_)
                have eu : X3.1 3 0 0 = zs_ua (zs_tA S) 10 := hok3.2.trans (tF.sC.ua 10)
                have eT : za_N (zs_tC S) 0 4 0 ((zs_tC S).1 0 4 0 + X3.1 3 0 0) = zs_tick S := by rw [eu]; rfl
                have hR4 : zs_Re (zs_tick S) X3 := fun k hk => by
                  rw [zs_tick_1 S 7 k 0 (by omega)]
                  exact hR3 k (by rw [zs_tick_1 S 0 2 0 (by omega)] at hk; exact hk)
                have hD4 : zs_D (zs_tick S) X3 := ⟨tF.iT, zs_J_3 hJ3 (zs_tick_1 S 0 0 0 (by omega)) (zs_tick_1 S 0 1 0 (by omega)) (zs_tick_1 S 0 2 0 (by omega)), hB3, tF.sT.ok hok3, hR4, tF.lT⟩
                exact zm_vret hx hb hr hlocks hG hS (by omega) (by omega) ⟨X3, by rw [eT], hD4⟩ dX6_passOneTick_145
              · refine lv_aload_n hx hb dX6_passOneTick_89 rfl (lv_at hl 1 rfl) ?_
                refine lv_iload_n hx hb dX6_passOneTick_90 rfl (lv_at hl 3 rfl) ?_
                refine zld_RC (r := X3.2 3 i 0) hx hb hK hG (by omega) rfl dX6_passOneTick_91 ?_
                refine zb_ostore (ad := ad) (κ := 11) (r := X3.2 3 i 0) (lv' := [(4, za_o ad 11 (X3.2 3 i 0)), (0, .ref (ad 0 0)), (1, .ref (ad 3 0)), (2, .int (nI 8)), (3, .int (nI i))]) hx hb dX6_passOneTick_92 hl (by decide) rfl (fun ls hl => ?_)
                refine zb_oload hx hb dX6_passOneTick_94 (lv_at hl 0 rfl) ?_
                refine zb_ifnull (κ := 11) (r := X3.2 3 i 0) (tgt := 126) hx hb dX6_passOneTick_96 (by decide) (fun c_96 => ?_) (fun x_7 c_96 => ?_)
                · rw [c_96] at hl
                  refine zb_iinc (n := 1) (k := 4) (lv' := [(3, .int (nI (i + 1))), (4, .null), (0, .ref (ad 0 0)), (1, .ref (ad 3 0)), (2, .int (nI 8))]) hx hb dX6_passOneTick_126 hl rfl (by decide) (by decide) rfl (fun ls hl => ?_)
                  refine zb_goto (tgt := 84) hx hb dX6_passOneTick_129 (by decide) ?_
                  have eN : zs_nt (zs_tB S) (i + 1) = zs_nt (zs_tB S) i := zs_nt_n (fun h => hJ3.kn c_96 (by rw [e0]; exact h.1))
                  refine zw_cs (cells' := zs_ce (zs_nt (zs_tB S) (i + 1)) - zs_ce S) (slots' := zs_sl (zs_nt (zs_tB S) (i + 1)) - zs_sl S) (by rw [eN]) (by rw [eN]) ?_
                  exact ih84 (i + 1) X3 (by omega) (by rw [eN]; exact hJ3) hB3 (by rw [eN]; exact hok3) (by rw [eN]; exact hR3) (by omega) _ _ (by rw [eN]; exact hG) hS ls (lv_sub hl [2, 3, 4, 0] rfl)
                · rw [c_96] at hl
                  have hyi : x_7 = i := (hJ3.k c_96).1
                  have hin3 : i < (zs_nt (zs_tB S) i).1 0 2 0 := (hJ3.k c_96).2
                  have hin : i < (zs_tB S).1 0 2 0 := by rw [← e0]; exact hin3
                  have hf : (zs_nt (zs_tB S) i).1 9 i 0 < (zs_nt (zs_tB S) i).1 0 1 0 := hI3.fo hin3
                  rw [hyi] at hl
                  have hv_8 : ∀ z, X3.2 3 i 0 = some z → z < X3.1 5 2 0 := (hJ3.kv i)
                  refine lv_aload hx hb dX6_passOneTick_99 (lv_at hl 0 rfl) ?_
                  refine zg_RE_stopped hx hb hts hinX3 hown hf231 hK hG i (hJ3.re hin3) (n := (zs_nt (zs_tB S) i).1 8 i 0) rfl dX6_passOneTick_101 ?_
                  refine zb_if_ne (x := (zs_nt (zs_tB S) i).1 8 i 0) (tgt := 126) hx hb (by have := hI3.B 8 i 0; omega) dX6_passOneTick_104 (by decide) (fun c_104 => ?_) (fun c_104 => ?_)
                  · refine zb_iinc (n := 1) (k := 4) (lv' := [(3, .int (nI (i + 1))), (4, .ref (ad 11 i)), (0, .ref (ad 0 0)), (1, .ref (ad 3 0)), (2, .int (nI 8))]) hx hb dX6_passOneTick_126 hl rfl (by decide) (by decide) rfl (fun ls hl => ?_)
                    refine zb_goto (tgt := 84) hx hb dX6_passOneTick_129 (by decide) ?_
                    have eN : zs_nt (zs_tB S) (i + 1) = zs_nt (zs_tB S) i := zs_nt_n (fun h => by have h9 := c_104; rw [e1 8 (by decide)] at h9; omega)
                    refine zw_cs (cells' := zs_ce (zs_nt (zs_tB S) (i + 1)) - zs_ce S) (slots' := zs_sl (zs_nt (zs_tB S) (i + 1)) - zs_sl S) (by rw [eN]) (by rw [eN]) ?_
                    exact ih84 (i + 1) X3 (by omega) (by rw [eN]; exact hJ3) hB3 (by rw [eN]; exact hok3) (by rw [eN]; exact hR3) (by omega) _ _ (by rw [eN]; exact hG) hS ls (lv_sub hl [2, 3, 4, 0] rfl)
                  · have hi8 : i < 8 := by omega
                    have hst : (zs_tB S).1 8 i 0 = 0 := by have h9 := c_104; rw [e1 8 (by decide)] at h9; omega
                    have eT : zs_nt (zs_tB S) (i + 1) = zs_put (zs_nt (zs_tB S) i) i ((zs_nt (zs_tB S) i).2 3 ((zs_nt (zs_tB S) i).1 9 i 0) 0) := by
                      rw [zs_nt_y ⟨hin, hst⟩, e1 9 (by decide), e2 3 (by decide)]
                    obtain ⟨d7, dc, ds⟩ := zs_nt_co tF.iB tF.nB hi8 ⟨hin, hst⟩
                    obtain ⟨hp1, hp2⟩ : zs_ce (zs_nt (zs_tB S) (i + 1)) ≤ zs_ce (zs_tC S) ∧ zs_sl (zs_nt (zs_tB S) (i + 1)) ≤ zs_sl (zs_tC S) := zs_nt_mo tF.iB tF.nB (by omega) (Nat.le_refl 8)
                    have hlim : (zs_nt (zs_tB S) i).1 7 i 0 < zl_lim i := by
                      have h1 := tF.nB i hi8
                      have h2 := tF.iB.t.1
                      rw [e7 i (Nat.le_refl _)]
                      unfold zl_lim
                      rw [if_neg (by omega)]
                      omega
                    refine lv_aload hx hb dX6_passOneTick_107 (lv_at hl 0 rfl) ?_
                    refine zg_RE_notes hx hb hts hinX3 hown hf237 hK hG i (hJ3.re hin3) dX6_passOneTick_109 ?_
                    refine lv_aload hx hb dX6_passOneTick_112 (lv_at hl 0 rfl) ?_
                    refine zg_RE_followed hx hb hts hinX3 hown hf121 hK hG i (hJ3.re hin3) (n := (zs_nt (zs_tB S) i).1 9 i 0) rfl dX6_passOneTick_114 ?_
                    refine zg_RM_speaker hx hb hts hinX4 hown hf165 hK hG ((zs_nt (zs_tB S) i).1 9 i 0) (hJ3.ro hf) (r := (zs_nt (zs_tB S) i).2 3 ((zs_nt (zs_tB S) i).1 9 i 0) 0) rfl dX6_passOneTick_117 ?_
                    refine zc_Si (As := [za_o ad 8 ((zs_nt (zs_tB S) i).2 3 ((zs_nt (zs_tB S) i).1 9 i 0) 0)]) (rest := [.ref (ad 12 i)]) hK hZ hb0 hG hS hx hb hml hown hts (c_X6_numberOf l ((zs_nt (zs_tB S) i).2 3 ((zs_nt (zs_tB S) i).1 9 i 0) 0) (fun x hx => hJ3.pe (hI3.sp hf hx).1)) (cwS 1 hts gX6_passOneTick_X6_numberOf rfl rfl rfl (by decide +kernel) ⟨Nat.le_of_ble_eq_true rfl, Nat.le_of_ble_eq_true rfl⟩) rfl hl rfl (Nat.le_of_ble_eq_true rfl) dX6_passOneTick_120 ⟨by show zs_ce (zs_nt (zs_tB S) i) - zs_ce S + 0 ≤ zs_ce (zs_tick S) - zs_ce S; omega, by show zs_sl (zs_nt (zs_tB S) i) - zs_sl S + 0 ≤ zs_sl (zs_tick S) - zs_sl S; omega⟩ (fun r_120 u_120 H locs hp hG hS => ?_)
                    obtain ⟨rfl, rfl⟩ := hp
                    refine zc_Vv (As := [.int (za_enc ((zs_nt (zs_tB S) i).2 3 ((zs_nt (zs_tB S) i).1 9 i 0) 0))]) (rest := []) hK hZ hb0 hG hS hx hb hml hown hts (c_X5_put l i ((zs_nt (zs_tB S) i).2 3 ((zs_nt (zs_tB S) i).1 9 i 0) 0) (Or.inl (hJ3.re hin3)) (hR3 i (Or.inl hin3)) hlim (fun j hj => hI3.rz hj)) (cwV 1 hts gX6_passOneTick_X5_put rfl rfl rfl (by decide +kernel) ⟨Nat.le_of_ble_eq_true rfl, Nat.le_of_ble_eq_true rfl⟩) (za_recv (q := (RX5, TX5, 3)) hK hG 12 i (show i < X3.1 5 2 0 ∨ i = 8 from (Or.inl (hJ3.re hin3))) rfl rfl rfl) rfl hl rfl (Nat.le_of_ble_eq_true rfl) dX6_passOneTick_123 ⟨by show zs_ce (zs_nt (zs_tB S) i) - zs_ce S + 0 + (zl_ce i ((zs_nt (zs_tB S) i).1 7 i 0 + 1) - zl_ce i ((zs_nt (zs_tB S) i).1 7 i 0)) ≤ zs_ce (zs_tick S) - zs_ce S; omega, by show zs_sl (zs_nt (zs_tB S) i) - zs_sl S + 0 + (zl_sl i ((zs_nt (zs_tB S) i).1 7 i 0 + 1) - zl_sl i ((zs_nt (zs_tB S) i).1 7 i 0)) ≤ zs_sl (zs_tick S) - zs_sl S; omega⟩ (fun u_123 H locs hp hG hS => ?_)
                    obtain ⟨X4, rfl, q1⟩ := hp
                    refine zb_iinc (n := 1) (k := 4) (lv' := [(3, .int (nI (i + 1))), (4, .ref (ad 11 i)), (0, .ref (ad 0 0)), (1, .ref (ad 3 0)), (2, .int (nI 8))]) hx hb dX6_passOneTick_126 hl rfl (by decide) (by decide) rfl (fun ls hl => ?_)
                    refine zb_goto (tgt := 84) hx hb dX6_passOneTick_129 (by decide) ?_
                    have hJ4 : zs_J (zs_nt (zs_tB S) (i + 1)) X4 := by
                      rw [eT]
                      exact zl_X_J q1 (zs_J_c hJ3 (zs_put_1 _ _ _ (by decide)))
                    have hB4 : zs_B X4 := zl_X_B q1 hB3 (by have h9 := zl_le i ((zs_nt (zs_tB S) i).1 7 i 0 + 1); omega)
                    have hok4 : zs_ok (zs_nt (zs_tB S) (i + 1)) X4 := by
                      rw [eT]
                      exact zl_X_ok q1 ((zs_put_se _ _ _).ok hok3)
                    have hR4 : zs_Re (zs_nt (zs_tB S) (i + 1)) X4 := fun k hk => by
                      by_cases q : k = i
                      · subst q
                        rw [q1.1, d7]
                      · rw [q1.2.1 4 k 0 (by omega), eT, zs_put_7, if_neg q]
                        exact hR3 k (by rw [eT, zs_put_1 _ _ _ (by decide)] at hk; exact hk)
                    refine zw_cs (cells' := zs_ce (zs_nt (zs_tB S) (i + 1)) - zs_ce S) (slots' := zs_sl (zs_nt (zs_tB S) (i + 1)) - zs_sl S) (by omega) (by omega) ?_
                    exact ih84 (i + 1) X4 (by omega) hJ4 hB4 hok4 hR4 (by omega) _ _ (by rw [eT]; exact hG) hS ls (lv_sub hl [2, 3, 4, 0] rfl)
          refine zw_cs (cells' := zs_ce (zs_nt (zs_tB S) 0) - zs_ce S) (slots' := zs_sl (zs_nt (zs_tB S) 0) - zs_sl S) (by show zs_ce (zs_tA S) - zs_ce S = zs_ce (zs_tB S) - zs_ce S; omega) (by show zs_sl (zs_tA S) - zs_sl S = zs_sl (zs_tB S) - zs_sl S; omega) ?_
          exact loop84 (_ + 1) 0 X2 (Nat.zero_le _) hJb hBc hokb hRb (Nat.lt_succ_self _) _ _ hG hS ls (lv_sub hl [3, 2, 1, 0] rfl)
        · refine lv_aload_n hx hb dX6_passOneTick_36 rfl (lv_at hl 1 rfl) ?_
          refine lv_iload_n hx hb dX6_passOneTick_37 rfl (lv_at hl 3 rfl) ?_
          refine zld_AR (r := X2.2 2 i 0) hx hb hK hG (by omega) rfl dX6_passOneTick_38 ?_
          refine zb_ostore (ad := ad) (κ := 9) (r := X2.2 2 i 0) (lv' := [(4, za_o ad 9 (X2.2 2 i 0)), (0, .ref (ad 0 0)), (1, .ref (ad 2 0)), (2, .int (nI 6)), (3, .int (nI i))]) hx hb dX6_passOneTick_39 hl (by decide) rfl (fun ls hl => ?_)
          refine zb_oload hx hb dX6_passOneTick_41 (lv_at hl 0 rfl) ?_
          refine zb_ifnull (κ := 9) (r := X2.2 2 i 0) (tgt := 68) hx hb dX6_passOneTick_43 (by decide) (fun c_43 => ?_) (fun x_9 c_43 => ?_)
          · rw [c_43] at hl
            refine zb_iinc (n := 1) (k := 4) (lv' := [(3, .int (nI (i + 1))), (4, .null), (0, .ref (ad 0 0)), (1, .ref (ad 2 0)), (2, .int (nI 6))]) hx hb dX6_passOneTick_68 hl rfl (by decide) (by decide) rfl (fun ls hl => ?_)
            refine zb_goto (tgt := 31) hx hb dX6_passOneTick_71 (by decide) ?_
            exact ih31 (i + 1) (by omega) (by omega) _ _ (by rw [zs_ta_0 (zs_tA S) i (fun h => hJc.rn c_43 h)]; exact hG) hS ls (lv_sub hl [2, 3, 4, 0] rfl)
          · rw [c_43] at hl
            have hyi : x_9 = i := (hJc.r c_43).1
            have hin : i < (zs_tA S).1 0 1 0 := (hJc.r c_43).2
            rw [hyi] at hl
            have hv_10 : ∀ z, X2.2 2 i 0 = some z → z < X2.1 5 1 0 := (hJc.rv i)
            refine lv_aload hx hb dX6_passOneTick_46 (lv_at hl 0 rfl) ?_
            refine zg_RM_speaker hx hb hts hinX4 hown hf165 hK hG i (hJc.ro hin) (r := (zs_ta (zs_tA S) i).2 3 i 0) rfl dX6_passOneTick_48 ?_
            refine zb_ifnull (κ := 8) (r := (zs_ta (zs_tA S) i).2 3 i 0) (tgt := 68) hx hb dX6_passOneTick_51 (by decide) (fun c_51 => ?_) (fun x_11 c_51 => ?_)
            · refine zb_iinc (n := 1) (k := 4) (lv' := [(3, .int (nI (i + 1))), (4, .ref (ad 9 i)), (0, .ref (ad 0 0)), (1, .ref (ad 2 0)), (2, .int (nI 6))]) hx hb dX6_passOneTick_68 hl rfl (by decide) (by decide) rfl (fun ls hl => ?_)
              refine zb_goto (tgt := 31) hx hb dX6_passOneTick_71 (by decide) ?_
              exact ih31 (i + 1) (by omega) (by omega) _ _ (by rw [zs_ta_y hin, zs_tk1_n c_51]; exact hG) hS ls (lv_sub hl [2, 3, 4, 0] rfl)
            · have hv_12 : ∀ z, (zs_ta (zs_tA S) i).2 3 i 0 = some z → z < X2.1 5 0 0 := (fun x hx => hJc.pe (by have h9 := (hIt.sp (by rw [ht0]; exact hin) hx).1; rw [ht0] at h9; exact h9))
              refine lv_aload hx hb dX6_passOneTick_54 (lv_at hl 0 rfl) ?_
              refine zg_RM_speaker hx hb hts hinX4 hown hf165 hK hG i (hJc.ro hin) (r := some x_11) c_51 dX6_passOneTick_56 ?_
              refine lv_dup hx hb dX6_passOneTick_59 rfl ?_
              refine zg_PE_talked hx hb hts hinX2 hown hf173 hK hG x_11 (hv_12 x_11 c_51) (n := (zs_ta (zs_tA S) i).1 4 x_11 0) rfl dX6_passOneTick_60 ?_
              refine lv_lconst (v := lN 1) hx hb dX6_passOneTick_63 (by decide) ?_
              refine zb_ladd hx hb dX6_passOneTick_64 ?_
              refine zp_PE_talked hx hb hts hinX2 hown hf173 hS hK hG x_11 (hv_12 x_11 c_51) dX6_passOneTick_65 (fun H locs hG hS => ?_)
              refine zb_iinc (n := 1) (k := 4) (lv' := [(3, .int (nI (i + 1))), (4, .ref (ad 9 i)), (0, .ref (ad 0 0)), (1, .ref (ad 2 0)), (2, .int (nI 6))]) hx hb dX6_passOneTick_68 hl rfl (by decide) (by decide) rfl (fun ls hl => ?_)
              refine zb_goto (tgt := 31) hx hb dX6_passOneTick_71 (by decide) ?_
              exact ih31 (i + 1) (by omega) (by omega) _ _ (by rw [zs_ta_y hin, zs_tk1_s c_51]; exact hG) hS ls (lv_sub hl [2, 3, 4, 0] rfl)
    exact loop31 (_ + 1) 0 (Nat.zero_le _) (Nat.lt_succ_self _) _ _ hG hS ls (lv_sub hl [3, 2, 1, 0] rfl)
