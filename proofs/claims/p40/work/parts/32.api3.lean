set_option maxRecDepth 100000 in
set_option maxHeartbeats 4000000 in
theorem c_X6_pass (l : Launch) (hl0 : l.stackTraces = false) {E : za_E} {b : Nat} {ad : za_Ad} {S X T Y : za_S} {ow : Int64} {dw : UInt64} (p0 : Int32) (hD : zs_D S X) : vx_Met l yX6_pass wsX6_pass ({ frames := 6, cells := 3 + (zs_ce (zs_pass S (zs_ix p0)) - zs_ce S), slots := 18 + (zs_sl (zs_pass S (zs_ix p0)) - zs_sl S), locals := 153 } : Room) (za_Pc E b (ad, S, X, T, Y, ow, dw) [.ref (ad 0 0), .int p0]) (za_Qi E b (fun r u => zo_pass S (zs_ix p0) = 0 ∧ r = nI ((zs_pass S (zs_ix p0)).1 7 8 0 - S.1 7 8 0) ∧ ∃ X2, u = (ad, zs_pass S (zs_ix p0), X2, T, Y, ow, dw) ∧ zs_D (zs_pass S (zs_ix p0)) X2)) (za_X E b (fun En u => (En = "java/lang/IllegalArgumentException" ∧ zo_pass S (zs_ix p0) = 1 ∧ u = (ad, S, X, T, Y, ow, dw)) ∨ (En = "java/lang/IllegalStateException" ∧ zo_pass S (zs_ix p0) = 2 ∧ u = (ad, S, X, T, Y, ow, dw)))) (3 + (zs_ce (zs_pass S (zs_ix p0)) - zs_ce S)) (18 + (zs_sl (zs_pass S (zs_ix p0)) - zs_sl S)) (za_A b) := by
  refine zx_met (ccm := cX6_pass) (maxL := 4) (ret := (some .int)) (ws' := _) (own := RX6) (lv := [(0, .ref (ad 0 0)), (1, .int p0)]) (by decide) rfl rfl rfl (by simp [lg_sl, Value.category]) ?_
  intro pg en s m below meth c hx hb hml hr hown hts hlocks htb hK hZ hb0 hG hS ls hl
  have hf156 := hts (.fieldLink RX6 156 "VideoBridge" "ticksPassed" "I") (by decide +kernel)
  have hf161 := hts (.fieldLink RX6 161 "VideoBridge$Row" "size" "I") (by decide +kernel)
  have hf32 := hts (.fieldLink RX6 32 "VideoBridge" "turns" "LVideoBridge$Row;") (by decide +kernel)
  have hiIAE := hts (.initialized "java/lang/IllegalArgumentException") (by decide +kernel)
  have hiISE := hts (.initialized "java/lang/IllegalStateException") (by decide +kernel)
  have hk116 := hts (.classLink RX6 116 "java/lang/IllegalArgumentException") (by decide +kernel)
  have hk51 := hts (.classLink RX6 51 "java/lang/IllegalStateException") (by decide +kernel)
  have hinX6 : ∀ w ∈ u_ws RX6 TX6 11, w ∈ wsX6_pass := by decide +kernel
  have hinX5 : ∀ w ∈ u_ws RX5 TX5 3, w ∈ wsX6_pass := by decide +kernel
  skip
  obtain ⟨hI, hJ, hBX, hok, hRe, hL⟩ := hD
  have hBS := hI.B
  have htI := hI.t
  rcases zs_ixc p0 with ⟨hp00, hp01⟩ | ⟨n, hp0n, hp0e, hp01⟩
  · have hl : lv_has ls 4 [(0, .ref (ad 0 0)), (1, .int p0)] := hl
    refine lv_iload_n hx hb dX6_pass_0 rfl (lv_at hl 1 rfl) ?_
    refine zb_iconst (n := 1) hx hb dX6_pass_1 (by decide) ?_
    refine lv_icmp_lt (tgt := 11) hx hb dX6_pass_2 (by decide) (fun c_2 => ?_) (fun c_2 => ?_)
    · exact zt_throw (cls := "java/lang/IllegalArgumentException") (text := "the number of ticks is out of range") (ik := 116) (is := 154) (ic := 120) hx hb hl0 hZ hG hS hml hl hown htb hlocks (by simp [za_exs]) (by simp [za_texts]) (by decide +kernel) hk116 hiIAE (fun w h => hts w (by simp only [wsX6_pass, List.mem_cons, List.mem_append, h, or_true, true_or])) zt_ng_IAE zt_gd_IAE dX6_pass_11 dX6_pass_14 dX6_pass_15 dX6_pass_17 dX6_pass_20 (Nat.le_of_ble_eq_true rfl) (Nat.le_of_ble_eq_true rfl) (by dsimp only; omega) (by dsimp only; omega) (by omega) (by omega) (Or.inl ⟨rfl, by unfold zo_pass; rw [if_pos (by omega)], rfl⟩)
    · exact absurd (Int32.lt_trans hp00 (by decide : (0 : Int32) < nI 1)) c_2
  · rw [← hp01] at hp0n hp0e
    have hl : lv_has ls 4 [(0, .ref (ad 0 0)), (1, .int (nI (zs_ix p0)))] := by rw [← hp0e]; exact hl
    refine lv_iload_n hx hb dX6_pass_0 rfl (lv_at hl 1 rfl) ?_
    refine zb_iconst (n := 1) hx hb dX6_pass_1 (by decide) ?_
    refine zb_icmp_lt (x := (zs_ix p0)) (y := 1) (tgt := 11) hx hb (by omega) (by omega) dX6_pass_2 (by decide) (fun c_2 => ?_) (fun c_2 => ?_)
    · exact zt_throw (cls := "java/lang/IllegalArgumentException") (text := "the number of ticks is out of range") (ik := 116) (is := 154) (ic := 120) hx hb hl0 hZ hG hS hml hl hown htb hlocks (by simp [za_exs]) (by simp [za_texts]) (by decide +kernel) hk116 hiIAE (fun w h => hts w (by simp only [wsX6_pass, List.mem_cons, List.mem_append, h, or_true, true_or])) zt_ng_IAE zt_gd_IAE dX6_pass_11 dX6_pass_14 dX6_pass_15 dX6_pass_17 dX6_pass_20 (Nat.le_of_ble_eq_true rfl) (Nat.le_of_ble_eq_true rfl) (by dsimp only; omega) (by dsimp only; omega) (by omega) (by omega) (Or.inl ⟨rfl, by unfold zo_pass; rw [if_pos (by omega)], rfl⟩)
    · refine lv_iload_n hx hb dX6_pass_5 rfl (lv_at hl 1 rfl) ?_
      refine zb_bipush (n := 60) hx hb dX6_pass_6 (by decide) ?_
      refine zb_icmp_le (x := (zs_ix p0)) (y := 60) (tgt := 21) hx hb (by omega) (by omega) dX6_pass_8 (by decide) (fun c_8 => ?_) (fun c_8 => ?_)
      · refine lv_aload_n hx hb dX6_pass_21 rfl (lv_at hl 0 rfl) ?_
        refine zg_BR_ticksPassed hx hb hts hinX6 hown hf156 hK hG (n := S.1 0 3 0) rfl dX6_pass_22 ?_
        refine lv_iload_n hx hb dX6_pass_25 rfl (lv_at hl 1 rfl) ?_
        refine zb_iadd hx hb dX6_pass_26 ?_
        refine zb_sipush (n := 2000) hx hb dX6_pass_27 (by decide) ?_
        refine zb_icmp_le (x := (S.1 0 3 0) + (zs_ix p0)) (y := 2000) (tgt := 43) hx hb (by have := hBS 0 3 0; omega) (by omega) dX6_pass_30 (by decide) (fun c_30 => ?_) (fun c_30 => ?_)
        · refine lv_aload_n hx hb dX6_pass_43 rfl (lv_at hl 0 rfl) ?_
          refine zg_BR_turns hx hb hts hinX6 hown hf32 hK hG dX6_pass_44 ?_
          refine zg_RW_size hx hb hts hinX5 hown hf161 hK hG 8 (Or.inr rfl) (n := S.1 7 8 0) rfl dX6_pass_47 ?_
          refine lv_istore_n (lv' := [(2, .int (nI (S.1 7 8 0))), (0, .ref (ad 0 0)), (1, .int (nI (zs_ix p0)))]) hx hb dX6_pass_50 rfl hl (by decide) rfl (fun ls hl => ?_)
          refine zb_iconst (n := 0) hx hb dX6_pass_51 (by decide) ?_
          refine lv_istore_n (lv' := [(3, .int (nI 0)), (2, .int (nI (S.1 7 8 0))), (0, .ref (ad 0 0)), (1, .int (nI (zs_ix p0)))]) hx hb dX6_pass_52 rfl hl (by decide) rfl (fun ls hl => ?_)
          have loop53 : ∀ (N : Nat) (i : Nat) (X1 : za_S), (i ≤ (zs_ix p0)) → (zs_D (zs_pass S i) X1) → (zs_ix p0) - i < N → ∀ (H : Heap) (locs : List Loc), za_G E b (ad, (zs_pass S i), X1, T, Y, ow, dw) H → va_S (za_A b) s.heap H locs → ∀ ls : Array Slot, lv_has ls 4 [(0, .ref (ad 0 0)), (1, .int (nI (zs_ix p0))), (2, .int (nI (S.1 7 8 0))), (3, .int (nI i))] → W pg l en ({ frames := 6, cells := 3 + (zs_ce (zs_pass S (zs_ix p0)) - zs_ce S), slots := 18 + (zs_sl (zs_pass S (zs_ix p0)) - zs_sl S), locals := 153 } : Room) s m ([.ref (ad 0 0), .int p0] : List Value).toArray below meth c H locs (zs_ce (zs_pass S i) - zs_ce S) (zs_sl (zs_pass S i) - zs_sl S) (vx_MQ below (za_Qi E b (fun r u => zo_pass S (zs_ix p0) = 0 ∧ r = nI ((zs_pass S (zs_ix p0)).1 7 8 0 - S.1 7 8 0) ∧ ∃ X2, u = (ad, zs_pass S (zs_ix p0), X2, T, Y, ow, dw) ∧ zs_D (zs_pass S (zs_ix p0)) X2)) (za_X E b (fun En u => (En = "java/lang/IllegalArgumentException" ∧ zo_pass S (zs_ix p0) = 1 ∧ u = (ad, S, X, T, Y, ow, dw)) ∨ (En = "java/lang/IllegalStateException" ∧ zo_pass S (zs_ix p0) = 2 ∧ u = (ad, S, X, T, Y, ow, dw)))) ([.ref (ad 0 0), .int p0] : List Value).toArray s (3 + (zs_ce (zs_pass S (zs_ix p0)) - zs_ce S)) (18 + (zs_sl (zs_pass S (zs_ix p0)) - zs_sl S)) (za_A b)) (F0 m 53 ls []) := by
            intro N
            induction N with
            | zero => intro i X1 hi hD1 hN; exact absurd hN (Nat.not_lt_zero _)
            | succ N ih53 =>
              intro i X1 hi hD1 hN H locs hG hS ls hl
              obtain ⟨pI, pL, pt, pm, pc, ps⟩ := zs_pass_f hI hL i (by omega)
              obtain ⟨qc, qs⟩ := zs_pass_mo hI hL (i := i) (j := (zs_ix p0)) hi (by omega)
              have pB := pI.B 7 8 0
              have sB := hBS 7 8 0
              refine lv_iload_n hx hb dX6_pass_53 rfl (lv_at hl 3 rfl) ?_
              refine lv_iload_n hx hb dX6_pass_54 rfl (lv_at hl 1 rfl) ?_
              refine zb_icmp_ge (x := i) (y := (zs_ix p0)) (tgt := 68) hx hb (by omega) (by omega) dX6_pass_55 (by decide) (fun c_55 => ?_) (fun c_55 => ?_)
              · have he : i = (zs_ix p0) := by omega
                refine lv_aload_n hx hb dX6_pass_68 rfl (lv_at hl 0 rfl) ?_
                refine zg_BR_turns hx hb hts hinX6 hown hf32 hK hG dX6_pass_69 ?_
                refine zg_RW_size hx hb hts hinX5 hown hf161 hK hG 8 (Or.inr rfl) (n := (zs_pass S i).1 7 8 0) rfl dX6_pass_72 ?_
                refine lv_iload_n hx hb dX6_pass_75 rfl (lv_at hl 2 rfl) ?_
                refine zb_isub hx hb (by omega) dX6_pass_76 ?_
                exact vx_ret (zm_iret hx hb hr hlocks hG hS (by omega) (by omega) ⟨by unfold zo_pass; rw [if_neg (by omega), if_neg (by omega)], by rw [← he], X1, by rw [← he], by rw [← he]; exact hD1⟩ dX6_pass_77)
              · refine lv_aload_n hx hb dX6_pass_58 rfl (lv_at hl 0 rfl) ?_
                refine zc_Vv (As := []) (rest := []) hK hZ hb0 hG hS hx hb hml hown hts (c_X6_passOneTick l hD1 (by omega)) (cwV 0 hts gX6_pass_X6_passOneTick rfl rfl rfl (by decide +kernel) ⟨Nat.le_of_ble_eq_true rfl, Nat.le_of_ble_eq_true rfl⟩) (za_recv (q := (RX6, TX6, 11)) hK hG 0 0 ⟨by omega, rfl⟩ rfl rfl rfl) rfl hl rfl (Nat.le_of_ble_eq_true rfl) dX6_pass_59 ⟨by have h9 := (zs_pass_mo hI hL (i := i + 1) (j := (zs_ix p0)) (by omega) (by omega)).1; have h8 := (zs_tick_mo pI pL (by omega)).1; show zs_ce (zs_pass S i) - zs_ce S + (zs_ce (zs_pass S (i + 1)) - zs_ce (zs_pass S i)) ≤ 3 + (zs_ce (zs_pass S (zs_ix p0)) - zs_ce S); have h7 : zs_ce (zs_pass S i) ≤ zs_ce (zs_pass S (i + 1)) := h8; omega, by have h9 := (zs_pass_mo hI hL (i := i + 1) (j := (zs_ix p0)) (by omega) (by omega)).2; have h8 := (zs_tick_mo pI pL (by omega)).2.1; show zs_sl (zs_pass S i) - zs_sl S + (zs_sl (zs_pass S (i + 1)) - zs_sl (zs_pass S i)) ≤ 18 + (zs_sl (zs_pass S (zs_ix p0)) - zs_sl S); have h7 : zs_sl (zs_pass S i) ≤ zs_sl (zs_pass S (i + 1)) := h8; omega⟩ (fun u_59 H locs hp hG hS => ?_)
                obtain ⟨X2, rfl, hD2⟩ := hp
                have h7 : zs_ce (zs_pass S i) ≤ zs_ce (zs_pass S (i + 1)) := (zs_tick_mo pI pL (by omega)).1
                have h8 : zs_sl (zs_pass S i) ≤ zs_sl (zs_pass S (i + 1)) := (zs_tick_mo pI pL (by omega)).2.1
                refine zb_iinc (n := 1) (k := 3) (lv' := [(3, .int (nI (i + 1))), (0, .ref (ad 0 0)), (1, .int (nI (zs_ix p0))), (2, .int (nI (S.1 7 8 0)))]) hx hb dX6_pass_62 hl rfl (by decide) (by decide) rfl (fun ls hl => ?_)
                refine zb_goto (tgt := 53) hx hb dX6_pass_65 (by decide) ?_
                refine zw_cs (cells' := zs_ce (zs_pass S (i + 1)) - zs_ce S) (slots' := zs_sl (zs_pass S (i + 1)) - zs_sl S) (by show zs_ce (zs_pass S i) - zs_ce S + (zs_ce (zs_pass S (i + 1)) - zs_ce (zs_pass S i)) = _; omega) (by show zs_sl (zs_pass S i) - zs_sl S + (zs_sl (zs_pass S (i + 1)) - zs_sl (zs_pass S i)) = _; omega) ?_
                exact ih53 (i + 1) X2 (by omega) hD2 (by omega) _ _ hG hS ls (lv_sub hl [1, 2, 3, 0] rfl)
          refine zw_cs (cells' := zs_ce (zs_pass S 0) - zs_ce S) (slots' := zs_sl (zs_pass S 0) - zs_sl S) (Nat.sub_self _).symm (Nat.sub_self _).symm ?_
          exact loop53 (_ + 1) 0 X (Nat.zero_le _) ⟨hI, hJ, hBX, hok, hRe, hL⟩ (Nat.lt_succ_self _) _ _ hG hS ls (lv_sub hl [2, 3, 1, 0] rfl)
        · exact zt_throw (cls := "java/lang/IllegalStateException") (text := "the tick would be too great") (ik := 51) (is := 159) (ic := 55) hx hb hl0 hZ hG hS hml hl hown htb hlocks (by simp [za_exs]) (by simp [za_texts]) (by decide +kernel) hk51 hiISE (fun w h => hts w (by simp only [wsX6_pass, List.mem_cons, List.mem_append, h, or_true, true_or])) zt_ng_ISE zt_gd_ISE dX6_pass_33 dX6_pass_36 dX6_pass_37 dX6_pass_39 dX6_pass_42 (Nat.le_of_ble_eq_true rfl) (Nat.le_of_ble_eq_true rfl) (by dsimp only; omega) (by dsimp only; omega) (by omega) (by omega) (Or.inr ⟨rfl, by unfold zo_pass; rw [if_neg (by omega), if_pos (by omega)], rfl⟩)
      · exact zt_throw (cls := "java/lang/IllegalArgumentException") (text := "the number of ticks is out of range") (ik := 116) (is := 154) (ic := 120) hx hb hl0 hZ hG hS hml hl hown htb hlocks (by simp [za_exs]) (by simp [za_texts]) (by decide +kernel) hk116 hiIAE (fun w h => hts w (by simp only [wsX6_pass, List.mem_cons, List.mem_append, h, or_true, true_or])) zt_ng_IAE zt_gd_IAE dX6_pass_11 dX6_pass_14 dX6_pass_15 dX6_pass_17 dX6_pass_20 (Nat.le_of_ble_eq_true rfl) (Nat.le_of_ble_eq_true rfl) (by dsimp only; omega) (by dsimp only; omega) (by omega) (by omega) (Or.inl ⟨rfl, by unfold zo_pass; rw [if_pos (by omega)], rfl⟩)
