set_option maxRecDepth 100000 in
set_option maxHeartbeats 4000000 in
theorem c_X6_pass_no (l : Launch) (hl0 : l.stackTraces = false) {E : za_E} {b : Nat} {ad : za_Ad} {S X T Y : za_S} {ow : Int64} {dw : UInt64} (p0 : Int32) (hD : zs_D S X) (hno : zo_pass S (zs_ix p0) ≠ 0) : vx_Met l yX6_pass wsX6_pass ({ frames := 6, cells := 3, slots := 18, locals := 153 } : Room) (za_Pc E b (ad, S, X, T, Y, ow, dw) [.ref (ad 0 0), .int p0]) (za_Qi E b (fun r u => False)) (za_X E b (fun En u => (En = "java/lang/IllegalArgumentException" ∧ zo_pass S (zs_ix p0) = 1 ∧ u = (ad, S, X, T, Y, ow, dw)) ∨ (En = "java/lang/IllegalStateException" ∧ zo_pass S (zs_ix p0) = 2 ∧ u = (ad, S, X, T, Y, ow, dw)))) (3) (18) (za_A b) := by
  refine zx_met (ccm := cX6_pass) (maxL := 4) (ret := (some .int)) (ws' := _) (own := RX6) (lv := [(0, .ref (ad 0 0)), (1, .int p0)]) (by decide) rfl rfl rfl (by simp [lg_sl, Value.category]) ?_
  intro pg en s m below meth c hx hb hml hr hown hts hlocks htb hK hZ hb0 hG hS ls hl
  have hf156 := hts (.fieldLink RX6 156 "VideoBridge" "ticksPassed" "I") (by decide +kernel)
  have hiIAE := hts (.initialized "java/lang/IllegalArgumentException") (by decide +kernel)
  have hiISE := hts (.initialized "java/lang/IllegalStateException") (by decide +kernel)
  have hk116 := hts (.classLink RX6 116 "java/lang/IllegalArgumentException") (by decide +kernel)
  have hk51 := hts (.classLink RX6 51 "java/lang/IllegalStateException") (by decide +kernel)
  have hinX6 : ∀ w ∈ u_ws RX6 TX6 11, w ∈ wsX6_pass := by decide +kernel
  skip
  obtain ⟨hI, hJ, hBX, hok, hRe, hL⟩ := hD
  have hBS := hI.B
  have htI := hI.t
  rcases zs_ixc p0 with ⟨hp00, hp01⟩ | ⟨n, hp0n, hp0e, hp01⟩
  · have hl : lv_has ls 4 [(0, .ref (ad 0 0)), (1, .int p0)] := hl
    refine lv_iload_n hx hb dX6_pass_0 rfl (lv_at hl 1 rfl) ?_
    refine zb_iconst (n := 1) hx hb dX6_pass_1 (by decide) ?_
    refine lv_icmp_lt (tgt := 11) hx hb dX6_pass_2 (by decide) (fun c_2 => ?_) (fun c_2 => ?_)
    · exact zt_throw (cls := "java/lang/IllegalArgumentException") (text := "the number of ticks is out of range") (ik := 116) (is := 154) (ic := 120) hx hb hl0 hZ hG hS hml hl hown htb hlocks (by simp [za_exs]) (by simp [za_texts]) (by decide +kernel) hk116 hiIAE (fun w h => hts w (by simp only [wsX6_pass, List.mem_cons, List.mem_append, h, or_true, true_or])) zt_ng_IAE zt_gd_IAE dX6_pass_11 dX6_pass_14 dX6_pass_15 dX6_pass_17 dX6_pass_20 (by decide) (by decide) (by first | (show _ + 1 ≤ _; omega) | decide) (by first | (show _ + 6 ≤ _; omega) | decide) (by omega) (by omega) (Or.inl ⟨rfl, by unfold zo_pass; rw [if_pos (by omega)], rfl⟩)
    · exact absurd (Int32.lt_trans hp00 (by decide : (0 : Int32) < nI 1)) c_2
  · rw [← hp01] at hp0n hp0e
    have hl : lv_has ls 4 [(0, .ref (ad 0 0)), (1, .int (nI (zs_ix p0)))] := by rw [← hp0e]; exact hl
    refine lv_iload_n hx hb dX6_pass_0 rfl (lv_at hl 1 rfl) ?_
    refine zb_iconst (n := 1) hx hb dX6_pass_1 (by decide) ?_
    refine zb_icmp_lt (x := (zs_ix p0)) (y := 1) (tgt := 11) hx hb (by omega) (by omega) dX6_pass_2 (by decide) (fun c_2 => ?_) (fun c_2 => ?_)
    · exact zt_throw (cls := "java/lang/IllegalArgumentException") (text := "the number of ticks is out of range") (ik := 116) (is := 154) (ic := 120) hx hb hl0 hZ hG hS hml hl hown htb hlocks (by simp [za_exs]) (by simp [za_texts]) (by decide +kernel) hk116 hiIAE (fun w h => hts w (by simp only [wsX6_pass, List.mem_cons, List.mem_append, h, or_true, true_or])) zt_ng_IAE zt_gd_IAE dX6_pass_11 dX6_pass_14 dX6_pass_15 dX6_pass_17 dX6_pass_20 (by decide) (by decide) (by first | (show _ + 1 ≤ _; omega) | decide) (by first | (show _ + 6 ≤ _; omega) | decide) (by omega) (by omega) (Or.inl ⟨rfl, by unfold zo_pass; rw [if_pos (by omega)], rfl⟩)
    · refine lv_iload_n hx hb dX6_pass_5 rfl (lv_at hl 1 rfl) ?_
      refine zb_bipush (n := 60) hx hb dX6_pass_6 (by decide) ?_
      refine zb_icmp_le (x := (zs_ix p0)) (y := 60) (tgt := 21) hx hb (by omega) (by omega) dX6_pass_8 (by decide) (fun c_8 => ?_) (fun c_8 => ?_)
      · refine lv_aload_n hx hb dX6_pass_21 rfl (lv_at hl 0 rfl) ?_
        refine zg_BR_ticksPassed hx hb hts hinX6 hown hf156 hK hG (n := S.1 0 3 0) rfl dX6_pass_22 ?_
        refine lv_iload_n hx hb dX6_pass_25 rfl (lv_at hl 1 rfl) ?_
        refine zb_iadd hx hb dX6_pass_26 ?_
        refine zb_sipush (n := 2000) hx hb dX6_pass_27 (by decide) ?_
        refine zb_icmp_le (x := (S.1 0 3 0) + (zs_ix p0)) (y := 2000) (tgt := 43) hx hb (by have := hBS 0 3 0; omega) (by omega) dX6_pass_30 (by decide) (fun c_30 => ?_) (fun c_30 => ?_)
        · exact absurd (by unfold zo_pass; rw [if_neg (by omega), if_neg (by omega)]) hno
        · exact zt_throw (cls := "java/lang/IllegalStateException") (text := "the tick would be too great") (ik := 51) (is := 159) (ic := 55) hx hb hl0 hZ hG hS hml hl hown htb hlocks (by simp [za_exs]) (by simp [za_texts]) (by decide +kernel) hk51 hiISE (fun w h => hts w (by simp only [wsX6_pass, List.mem_cons, List.mem_append, h, or_true, true_or])) zt_ng_ISE zt_gd_ISE dX6_pass_33 dX6_pass_36 dX6_pass_37 dX6_pass_39 dX6_pass_42 (by decide) (by decide) (by first | (show _ + 1 ≤ _; omega) | decide) (by first | (show _ + 6 ≤ _; omega) | decide) (by omega) (by omega) (Or.inr ⟨rfl, by unfold zo_pass; rw [if_neg (by omega), if_pos (by omega)], rfl⟩)
      · exact zt_throw (cls := "java/lang/IllegalArgumentException") (text := "the number of ticks is out of range") (ik := 116) (is := 154) (ic := 120) hx hb hl0 hZ hG hS hml hl hown htb hlocks (by simp [za_exs]) (by simp [za_texts]) (by decide +kernel) hk116 hiIAE (fun w h => hts w (by simp only [wsX6_pass, List.mem_cons, List.mem_append, h, or_true, true_or])) zt_ng_IAE zt_gd_IAE dX6_pass_11 dX6_pass_14 dX6_pass_15 dX6_pass_17 dX6_pass_20 (by decide) (by decide) (by first | (show _ + 1 ≤ _; omega) | decide) (by first | (show _ + 6 ≤ _; omega) | decide) (by omega) (by omega) (Or.inl ⟨rfl, by unfold zo_pass; rw [if_pos (by omega)], rfl⟩)

set_option maxRecDepth 100000 in
set_option maxHeartbeats 4000000 in
theorem c_L_pass_no (l : Launch) (hl0 : l.stackTraces = false) {E : za_E} {b : Nat} {ad : za_Ad} {S X T Y : za_S} {ow : Int64} {dw : UInt64} (p0 : Int32) (hD : zs_D S X) (h6 : zs_6 S) (hno : zo_pass S (zs_ix p0) ≠ 0) : Met l yL_pass wsL_pass ({ frames := 7, cells := 5, slots := 40, locals := 176 } : Room) (za_PcA E b (ad, S, X, T, Y, ow, dw) [.ref (ad 0 0), .int p0, .ref (ad 33 0)]) (za_Qi E b (fun r u => zw_post ad S T Y dw (zo_pass S (zs_ix p0)) (zs_pass S (zs_ix p0)) ((nI ((zs_pass S (zs_ix p0)).1 7 8 0 - S.1 7 8 0)).toInt64) r u)) (5) (40) (za_A b) := by
  refine zw_met (ccm := cL_pass) (maxL := 4) (ret := (some .int)) (ws' := _) (own := RL) (lv := [(0, .ref (ad 0 0)), (1, .int p0), (2, .ref (ad 33 0))]) (by decide) rfl rfl rfl (by simp [lg_sl, Value.category]) ?_
  intro pg en s m below meth c hx hb hml hr hown hts hlocks htb hK hZ hAO hb0 hG hS ls hl
  skip
  refine lv_aload_n hx hb dL_pass_0 rfl (lv_at hl 2 rfl) ?_
  refine zb_iconst (n := 0) hx hb dL_pass_1 (by decide) ?_
  refine lv_aload_n hx hb dL_pass_2 rfl (lv_at hl 0 rfl) ?_
  refine lv_iload_n hx hb dL_pass_3 rfl (lv_at hl 1 rfl) ?_
  refine zc_xVi (As := [.int p0]) (rest := [.int (nI 0), .ref (ad 33 0)]) hK hZ hb0 hG hS hx hb hml hown hts (c_X6_pass_no l hl0 p0 hD hno) (cwV 1 hts gL_pass_X6_pass rfl rfl rfl (by decide +kernel) ⟨Nat.le_of_ble_eq_true rfl, Nat.le_of_ble_eq_true rfl⟩) (za_recv (q := (RX6, TX6, 11)) hK hG 0 0 ⟨by omega, rfl⟩ rfl rfl rfl) rfl hl rfl (Nat.le_of_ble_eq_true rfl) dL_pass_4 ⟨Nat.le_of_ble_eq_true rfl, Nat.le_of_ble_eq_true rfl⟩ (fun En ce q9 u_4 H locs hp hG hS g1 g2 g3 => ?_) (fun r_4 u_4 H locs hp hG hS => ?_)
  · rcases hp with ⟨rfl, hco, rfl⟩ | ⟨rfl, hco, rfl⟩
    · refine vx_catch (E := "java/lang/IllegalArgumentException") (name := "java/lang/IllegalArgumentException") hown [] ⟨0, 9, 12, 13⟩ [⟨0, 9, 15, 15⟩] (by rw [htb]; rfl) (fun _ h => by cases h) rfl (by decide) (hts (.classLink RL 13 "java/lang/IllegalArgumentException") (by decide +kernel)) (va_Nw.use rfl (hZ.2.2.2.2.2.1 "java/lang/IllegalArgumentException" (by simp [za_exs]))) g1 g2 g3 ?_
      refine lv_astore_n (lv' := [(3, .ref q9), (0, .ref (ad 0 0)), (1, .int p0), (2, .ref (ad 33 0))]) hx hb dL_pass_12 rfl hl (by decide) rfl (fun ls hl => ?_)
      refine zb_iconst (n := 1) hx hb dL_pass_13 (by decide) ?_
      exact zm_iret hx hb hr hlocks hG hS (by omega) (by omega) (zw_no hco rfl hD h6) dL_pass_14
    · refine vx_catch (E := "java/lang/IllegalStateException") (name := "java/lang/IllegalStateException") hown [⟨0, 9, 12, 13⟩] ⟨0, 9, 15, 15⟩ [] (by rw [htb]; rfl) (List.forall_mem_cons.mpr ⟨Or.inr ⟨by decide, "java/lang/IllegalArgumentException", hts (.classLink RL 13 "java/lang/IllegalArgumentException") (by decide +kernel), hZ.2.2.2.2.2.2.1 "java/lang/IllegalStateException" (by simp [za_exs]) "java/lang/IllegalArgumentException" (by simp [za_exs]) (by decide)⟩, (fun _ h => by cases h)⟩) rfl (by decide) (hts (.classLink RL 15 "java/lang/IllegalStateException") (by decide +kernel)) (va_Nw.use rfl (hZ.2.2.2.2.2.1 "java/lang/IllegalStateException" (by simp [za_exs]))) g1 g2 g3 ?_
      refine lv_astore_n (lv' := [(3, .ref q9), (0, .ref (ad 0 0)), (1, .int p0), (2, .ref (ad 33 0))]) hx hb dL_pass_15 rfl hl (by decide) rfl (fun ls hl => ?_)
      refine zb_iconst (n := 2) hx hb dL_pass_16 (by decide) ?_
      exact zm_iret hx hb hr hlocks hG hS (by omega) (by omega) (zw_no hco rfl hD h6) dL_pass_17
  · exact False.elim hp
