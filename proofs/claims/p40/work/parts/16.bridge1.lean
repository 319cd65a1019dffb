set_option maxRecDepth 100000 in
set_option maxHeartbeats 4000000 in
theorem c_X6_personOf (l : Launch) (hl0 : l.stackTraces = false) {E : za_E} {b : Nat} {ad : za_Ad} {S X T Y : za_S} {ow : Int64} {dw : UInt64} (x : Int32) (hJ : zs_J S X) (hBX : zs_B X) (hBS : zs_B S) : vx_Met l yX6_personOf wsX6_personOf ({ frames := 6, cells := 1, slots := 6, locals := 82 } : Room) (za_Pc E b (ad, S, X, T, Y, ow, dw) [.ref (ad 0 0), .int x]) (za_Qq E b 8 (fun r u => r = some (zs_ix x) ∧ zs_ix x < S.1 0 0 0 ∧ u = (ad, S, X, T, Y, ow, dw))) (za_X E b (fun En u => En = "java/util/NoSuchElementException" ∧ ¬ zs_ix x < S.1 0 0 0 ∧ u = (ad, S, X, T, Y, ow, dw))) (1) (6) (za_A b) := by
  refine zx_met (ccm := cX6_personOf) (maxL := 3) (ret := (some (.object "VideoBridge$Person"))) (ws' := _) (own := RX6) (lv := [(0, .ref (ad 0 0)), (1, .int x)]) (by decide) rfl rfl rfl (by simp [lg_sl, Value.category]) ?_
  intro pg en s m below meth c hx hb hml hr hown hts hlocks htb hK hZ hb0 hG hS ls hl
  have hf11 := hts (.fieldLink RX6 11 "VideoBridge" "everybody" "[LVideoBridge$Person;") (by decide +kernel)
  have hiNSE := hts (.initialized "java/util/NoSuchElementException") (by decide +kernel)
  have hk149 := hts (.classLink RX6 149 "java/util/NoSuchElementException") (by decide +kernel)
  have hinX6 : ∀ w ∈ u_ws RX6 TX6 11, w ∈ wsX6_personOf := by decide +kernel
  skip
  have hn10 := hJ.1
  have hr10 := hJ.2.1
  have hk10 := hJ.2.2.1
  rcases zs_ixc x with ⟨hx0, hx1⟩ | ⟨n, hxn, rfl, hx1⟩
  · have hl : lv_has ls 3 [(0, .ref (ad 0 0)), (1, .int x)] := hl
    refine lv_iload_n hx hb dX6_personOf_0 rfl (lv_at hl 1 rfl) ?_
    refine lv_if_lt (tgt := 13) hx hb dX6_personOf_1 (by decide) (fun c_1 => ?_) (fun c_1 => ?_)
    · refine lv_null hx hb dX6_personOf_13 ?_
      refine zb_goto (tgt := 23) hx hb dX6_personOf_14 (by decide) ?_
      refine zb_ostore_n (ad := ad) (κ := 8) (r := none) (lv' := [(2, .null), (0, .ref (ad 0 0)), (1, .int x)]) hx hb dX6_personOf_23 rfl hl (by decide) rfl (fun ls hl => ?_)
      refine lv_aload_nN hx hb dX6_personOf_24 rfl (lv_at hl 0 rfl) ?_
      refine lv_ifnonnullN hx hb dX6_personOf_25 ?_
      exact zt_throwX (cls := "java/util/NoSuchElementException") (text := "there is no such person") (ik := 149) (is := 253) (ic := 153) hx hb hl0 hZ hG hS hml hl hown htb hlocks (by simp [za_exs]) (by simp [za_texts]) (by decide +kernel) hk149 hiNSE (fun w h => hts w (by simp only [wsX6_personOf, List.mem_cons, List.mem_append, h, or_true, true_or])) zt_ng_NSE zt_gd_NSE dX6_personOf_28 dX6_personOf_31 dX6_personOf_32 dX6_personOf_34 dX6_personOf_37 (by decide) (by decide) (by first | (show _ + 1 ≤ _; omega) | decide) (by first | (show _ + 6 ≤ _; omega) | decide) (by omega) (by omega) ⟨rfl, by rw [hx1]; first | omega | exact hJ.en c_25, rfl⟩
    · exact absurd hx0 c_1
  · have hl : lv_has ls 3 [(0, .ref (ad 0 0)), (1, .int (nI n))] := hl
    refine lv_iload_n hx hb dX6_personOf_0 rfl (lv_at hl 1 rfl) ?_
    refine zb_if_lt (x := n) (tgt := 13) hx hb (by omega) dX6_personOf_1 (by decide) ?_
    refine lv_iload_n hx hb dX6_personOf_4 rfl (lv_at hl 1 rfl) ?_
    refine lv_aload_n hx hb dX6_personOf_5 rfl (lv_at hl 0 rfl) ?_
    refine zg_BR_everybody hx hb hts hinX6 hown hf11 hK hG dX6_personOf_6 ?_
    refine zl_EV hx hb hK hG dX6_personOf_9 ?_
    refine zb_icmp_lt (x := n) (y := 10) (tgt := 17) hx hb (by omega) (by omega) dX6_personOf_10 (by decide) (fun c_10 => ?_) (fun c_10 => ?_)
    · refine lv_aload_n hx hb dX6_personOf_17 rfl (lv_at hl 0 rfl) ?_
      refine zg_BR_everybody hx hb hts hinX6 hown hf11 hK hG dX6_personOf_18 ?_
      refine lv_iload_n hx hb dX6_personOf_21 rfl (lv_at hl 1 rfl) ?_
      refine zld_EV (r := X.2 1 n 0) hx hb hK hG (by omega) rfl dX6_personOf_22 ?_
      refine zb_ostore_n (ad := ad) (κ := 8) (r := X.2 1 n 0) (lv' := [(2, za_o ad 8 (X.2 1 n 0)), (0, .ref (ad 0 0)), (1, .int (nI n))]) hx hb dX6_personOf_23 rfl hl (by decide) rfl (fun ls hl => ?_)
      refine zb_oload_n hx hb dX6_personOf_24 rfl (lv_at hl 0 rfl) ?_
      refine zb_ifnonnull (κ := 8) (r := X.2 1 n 0) (tgt := 38) hx hb dX6_personOf_25 (by decide) (fun x_1 c_25 => ?_) (fun c_25 => ?_)
      · rw [c_25] at hl
        have hv_2 : ∀ z, X.2 1 n 0 = some z → z < X.1 5 0 0 := (hJ.ev n)
        refine lv_aload_n hx hb dX6_personOf_38 rfl (lv_at hl 0 rfl) ?_
        exact vx_ret (zm_qret (r := some x_1) hx hb hr hlocks hG hS (by omega) (by omega) ⟨by rw [hx1, (hJ.e c_25).1], by rw [hx1]; exact (hJ.e c_25).2, rfl⟩ dX6_personOf_39)
      · rw [c_25] at hl
        exact zt_throwX (cls := "java/util/NoSuchElementException") (text := "there is no such person") (ik := 149) (is := 253) (ic := 153) hx hb hl0 hZ hG hS hml hl hown htb hlocks (by simp [za_exs]) (by simp [za_texts]) (by decide +kernel) hk149 hiNSE (fun w h => hts w (by simp only [wsX6_personOf, List.mem_cons, List.mem_append, h, or_true, true_or])) zt_ng_NSE zt_gd_NSE dX6_personOf_28 dX6_personOf_31 dX6_personOf_32 dX6_personOf_34 dX6_personOf_37 (by decide) (by decide) (by first | (show _ + 1 ≤ _; omega) | decide) (by first | (show _ + 6 ≤ _; omega) | decide) (by omega) (by omega) ⟨rfl, by rw [hx1]; first | omega | exact hJ.en c_25, rfl⟩
    · refine lv_null hx hb dX6_personOf_13 ?_
      refine zb_goto (tgt := 23) hx hb dX6_personOf_14 (by decide) ?_
      refine zb_ostore_n (ad := ad) (κ := 8) (r := none) (lv' := [(2, .null), (0, .ref (ad 0 0)), (1, .int (nI n))]) hx hb dX6_personOf_23 rfl hl (by decide) rfl (fun ls hl => ?_)
      refine lv_aload_nN hx hb dX6_personOf_24 rfl (lv_at hl 0 rfl) ?_
      refine lv_ifnonnullN hx hb dX6_personOf_25 ?_
      exact zt_throwX (cls := "java/util/NoSuchElementException") (text := "there is no such person") (ik := 149) (is := 253) (ic := 153) hx hb hl0 hZ hG hS hml hl hown htb hlocks (by simp [za_exs]) (by simp [za_texts]) (by decide +kernel) hk149 hiNSE (fun w h => hts w (by simp only [wsX6_personOf, List.mem_cons, List.mem_append, h, or_true, true_or])) zt_ng_NSE zt_gd_NSE dX6_personOf_28 dX6_personOf_31 dX6_personOf_32 dX6_personOf_34 dX6_personOf_37 (by decide) (by decide) (by first | (show _ + 1 ≤ _; omega) | decide) (by first | (show _ + 6 ≤ _; omega) | decide) (by omega) (by omega) ⟨rfl, by rw [hx1]; first | omega | exact hJ.en c_25, rfl⟩

set_option maxRecDepth 100000 in
set_option maxHeartbeats 4000000 in
theorem c_X6_roomNumbered (l : Launch) (hl0 : l.stackTraces = false) {E : za_E} {b : Nat} {ad : za_Ad} {S X T Y : za_S} {ow : Int64} {dw : UInt64} (x : Int32) (hJ : zs_J S X) (hBX : zs_B X) (hBS : zs_B S) : vx_Met l yX6_roomNumbered wsX6_roomNumbered ({ frames := 6, cells := 1, slots := 6, locals := 82 } : Room) (za_Pc E b (ad, S, X, T, Y, ow, dw) [.ref (ad 0 0), .int x]) (za_Qq E b 9 (fun r u => r = some (zs_ix x) ∧ zs_ix x < S.1 0 1 0 ∧ u = (ad, S, X, T, Y, ow, dw))) (za_X E b (fun En u => En = "java/lang/IndexOutOfBoundsException" ∧ ¬ zs_ix x < S.1 0 1 0 ∧ u = (ad, S, X, T, Y, ow, dw))) (1) (6) (za_A b) := by
  refine zx_met (ccm := cX6_roomNumbered) (maxL := 3) (ret := (some (.object "VideoBridge$Room"))) (ws' := _) (own := RX6) (lv := [(0, .ref (ad 0 0)), (1, .int x)]) (by decide) rfl rfl rfl (by simp [lg_sl, Value.category]) ?_
  intro pg en s m below meth c hx hb hml hr hown hts hlocks htb hK hZ hb0 hG hS ls hl
  have hf17 := hts (.fieldLink RX6 17 "VideoBridge" "allRooms" "[LVideoBridge$Room;") (by decide +kernel)
  have hiIOB := hts (.initialized "java/lang/IndexOutOfBoundsException") (by decide +kernel)
  have hk240 := hts (.classLink RX6 240 "java/lang/IndexOutOfBoundsException") (by decide +kernel)
  have hinX6 : ∀ w ∈ u_ws RX6 TX6 11, w ∈ wsX6_roomNumbered := by decide +kernel
  skip
  have hn10 := hJ.1
  have hr10 := hJ.2.1
  have hk10 := hJ.2.2.1
  rcases zs_ixc x with ⟨hx0, hx1⟩ | ⟨n, hxn, rfl, hx1⟩
  · have hl : lv_has ls 3 [(0, .ref (ad 0 0)), (1, .int x)] := hl
    refine lv_iload_n hx hb dX6_roomNumbered_0 rfl (lv_at hl 1 rfl) ?_
    refine lv_if_lt (tgt := 13) hx hb dX6_roomNumbered_1 (by decide) (fun c_1 => ?_) (fun c_1 => ?_)
    · refine lv_null hx hb dX6_roomNumbered_13 ?_
      refine zb_goto (tgt := 23) hx hb dX6_roomNumbered_14 (by decide) ?_
      refine zb_ostore_n (ad := ad) (κ := 8) (r := none) (lv' := [(2, .null), (0, .ref (ad 0 0)), (1, .int x)]) hx hb dX6_roomNumbered_23 rfl hl (by decide) rfl (fun ls hl => ?_)
      refine lv_aload_nN hx hb dX6_roomNumbered_24 rfl (lv_at hl 0 rfl) ?_
      refine lv_ifnonnullN hx hb dX6_roomNumbered_25 ?_
      exact zt_throw (cls := "java/lang/IndexOutOfBoundsException") (text := "there is no such room") (ik := 240) (is := 255) (ic := 244) hx hb hl0 hZ hG hS hml hl hown htb hlocks (by simp [za_exs]) (by simp [za_texts]) (by decide +kernel) hk240 hiIOB (fun w h => hts w (by simp only [wsX6_roomNumbered, List.mem_cons, List.mem_append, h, or_true, true_or])) zt_ng_IOB zt_gd_IOB dX6_roomNumbered_28 dX6_roomNumbered_31 dX6_roomNumbered_32 dX6_roomNumbered_34 dX6_roomNumbered_37 (by decide) (by decide) (by first | (show _ + 1 ≤ _; omega) | decide) (by first | (show _ + 6 ≤ _; omega) | decide) (by omega) (by omega) ⟨rfl, by rw [hx1]; first | omega | exact hJ.rn c_25, rfl⟩
    · exact absurd hx0 c_1
  · have hl : lv_has ls 3 [(0, .ref (ad 0 0)), (1, .int (nI n))] := hl
    refine lv_iload_n hx hb dX6_roomNumbered_0 rfl (lv_at hl 1 rfl) ?_
    refine zb_if_lt (x := n) (tgt := 13) hx hb (by omega) dX6_roomNumbered_1 (by decide) ?_
    refine lv_iload_n hx hb dX6_roomNumbered_4 rfl (lv_at hl 1 rfl) ?_
    refine lv_aload_n hx hb dX6_roomNumbered_5 rfl (lv_at hl 0 rfl) ?_
    refine zg_BR_allRooms hx hb hts hinX6 hown hf17 hK hG dX6_roomNumbered_6 ?_
    refine zl_AR hx hb hK hG dX6_roomNumbered_9 ?_
    refine zb_icmp_lt (x := n) (y := 6) (tgt := 17) hx hb (by omega) (by omega) dX6_roomNumbered_10 (by decide) (fun c_10 => ?_) (fun c_10 => ?_)
    · refine lv_aload_n hx hb dX6_roomNumbered_17 rfl (lv_at hl 0 rfl) ?_
      refine zg_BR_allRooms hx hb hts hinX6 hown hf17 hK hG dX6_roomNumbered_18 ?_
      refine lv_iload_n hx hb dX6_roomNumbered_21 rfl (lv_at hl 1 rfl) ?_
      refine zld_AR (r := X.2 2 n 0) hx hb hK hG (by omega) rfl dX6_roomNumbered_22 ?_
      refine zb_ostore_n (ad := ad) (κ := 9) (r := X.2 2 n 0) (lv' := [(2, za_o ad 9 (X.2 2 n 0)), (0, .ref (ad 0 0)), (1, .int (nI n))]) hx hb dX6_roomNumbered_23 rfl hl (by decide) rfl (fun ls hl => ?_)
      refine zb_oload_n hx hb dX6_roomNumbered_24 rfl (lv_at hl 0 rfl) ?_
      refine zb_ifnonnull (κ := 9) (r := X.2 2 n 0) (tgt := 38) hx hb dX6_roomNumbered_25 (by decide) (fun x_1 c_25 => ?_) (fun c_25 => ?_)
      · rw [c_25] at hl
        have hv_2 : ∀ z, X.2 2 n 0 = some z → z < X.1 5 1 0 := (hJ.rv n)
        refine lv_aload_n hx hb dX6_roomNumbered_38 rfl (lv_at hl 0 rfl) ?_
        exact vx_ret (zm_qret (r := some x_1) hx hb hr hlocks hG hS (by omega) (by omega) ⟨by rw [hx1, (hJ.r c_25).1], by rw [hx1]; exact (hJ.r c_25).2, rfl⟩ dX6_roomNumbered_39)
      · rw [c_25] at hl
        exact zt_throw (cls := "java/lang/IndexOutOfBoundsException") (text := "there is no such room") (ik := 240) (is := 255) (ic := 244) hx hb hl0 hZ hG hS hml hl hown htb hlocks (by simp [za_exs]) (by simp [za_texts]) (by decide +kernel) hk240 hiIOB (fun w h => hts w (by simp only [wsX6_roomNumbered, List.mem_cons, List.mem_append, h, or_true, true_or])) zt_ng_IOB zt_gd_IOB dX6_roomNumbered_28 dX6_roomNumbered_31 dX6_roomNumbered_32 dX6_roomNumbered_34 dX6_roomNumbered_37 (by decide) (by decide) (by first | (show _ + 1 ≤ _; omega) | decide) (by first | (show _ + 6 ≤ _; omega) | decide) (by omega) (by omega) ⟨rfl, by rw [hx1]; first | omega | exact hJ.rn c_25, rfl⟩
    · refine lv_null hx hb dX6_roomNumbered_13 ?_
      refine zb_goto (tgt := 23) hx hb dX6_roomNumbered_14 (by decide) ?_
      refine zb_ostore_n (ad := ad) (κ := 8) (r := none) (lv' := [(2, .null), (0, .ref (ad 0 0)), (1, .int (nI n))]) hx hb dX6_roomNumbered_23 rfl hl (by decide) rfl (fun ls hl => ?_)
      refine lv_aload_nN hx hb dX6_roomNumbered_24 rfl (lv_at hl 0 rfl) ?_
      refine lv_ifnonnullN hx hb dX6_roomNumbered_25 ?_
      exact zt_throw (cls := "java/lang/IndexOutOfBoundsException") (text := "there is no such room") (ik := 240) (is := 255) (ic := 244) hx hb hl0 hZ hG hS hml hl hown htb hlocks (by simp [za_exs]) (by simp [za_texts]) (by decide +kernel) hk240 hiIOB (fun w h => hts w (by simp only [wsX6_roomNumbered, List.mem_cons, List.mem_append, h, or_true, true_or])) zt_ng_IOB zt_gd_IOB dX6_roomNumbered_28 dX6_roomNumbered_31 dX6_roomNumbered_32 dX6_roomNumbered_34 dX6_roomNumbered_37 (by decide) (by decide) (by first | (show _ + 1 ≤ _; omega) | decide) (by first | (show _ + 6 ≤ _; omega) | decide) (by omega) (by omega) ⟨rfl, by rw [hx1]; first | omega | exact hJ.rn c_25, rfl⟩

set_option maxRecDepth 100000 in
set_option maxHeartbeats 4000000 in
theorem c_X6_recorderNumbered (l : Launch) (hl0 : l.stackTraces = false) {E : za_E} {b : Nat} {ad : za_Ad} {S X T Y : za_S} {ow : Int64} {dw : UInt64} (x : Int32) (hJ : zs_J S X) (hBX : zs_B X) (hBS : zs_B S) : vx_Met l yX6_recorderNumbered wsX6_recorderNumbered ({ frames := 6, cells := 1, slots := 6, locals := 82 } : Room) (za_Pc E b (ad, S, X, T, Y, ow, dw) [.ref (ad 0 0), .int x]) (za_Qq E b 11 (fun r u => r = some (zs_ix x) ∧ zs_ix x < S.1 0 2 0 ∧ u = (ad, S, X, T, Y, ow, dw))) (za_X E b (fun En u => En = "java/util/NoSuchElementException" ∧ ¬ zs_ix x < S.1 0 2 0 ∧ u = (ad, S, X, T, Y, ow, dw))) (1) (6) (za_A b) := by
  refine zx_met (ccm := cX6_recorderNumbered) (maxL := 3) (ret := (some (.object "VideoBridge$Recorder"))) (ws' := _) (own := RX6) (lv := [(0, .ref (ad 0 0)), (1, .int x)]) (by decide) rfl rfl rfl (by simp [lg_sl, Value.category]) ?_
  intro pg en s m below meth c hx hb hml hr hown hts hlocks htb hK hZ hb0 hG hS ls hl
  have hf23 := hts (.fieldLink RX6 23 "VideoBridge" "recorders" "[LVideoBridge$Recorder;") (by decide +kernel)
  have hiNSE := hts (.initialized "java/util/NoSuchElementException") (by decide +kernel)
  have hk149 := hts (.classLink RX6 149 "java/util/NoSuchElementException") (by decide +kernel)
  have hinX6 : ∀ w ∈ u_ws RX6 TX6 11, w ∈ wsX6_recorderNumbered := by decide +kernel
  skip
  have hn10 := hJ.1
  have hr10 := hJ.2.1
  have hk10 := hJ.2.2.1
  rcases zs_ixc x with ⟨hx0, hx1⟩ | ⟨n, hxn, rfl, hx1⟩
  · have hl : lv_has ls 3 [(0, .ref (ad 0 0)), (1, .int x)] := hl
    refine lv_iload_n hx hb dX6_recorderNumbered_0 rfl (lv_at hl 1 rfl) ?_
    refine lv_if_lt (tgt := 13) hx hb dX6_recorderNumbered_1 (by decide) (fun c_1 => ?_) (fun c_1 => ?_)
    · refine lv_null hx hb dX6_recorderNumbered_13 ?_
      refine zb_goto (tgt := 23) hx hb dX6_recorderNumbered_14 (by decide) ?_
      refine zb_ostore_n (ad := ad) (κ := 8) (r := none) (lv' := [(2, .null), (0, .ref (ad 0 0)), (1, .int x)]) hx hb dX6_recorderNumbered_23 rfl hl (by decide) rfl (fun ls hl => ?_)
      refine lv_aload_nN hx hb dX6_recorderNumbered_24 rfl (lv_at hl 0 rfl) ?_
      refine lv_ifnonnullN hx hb dX6_recorderNumbered_25 ?_
      exact zt_throwWX (cls := "java/util/NoSuchElementException") (text := "there is no such recorder") (ik := 149) (is := 257) (ic := 153) hx hb hl0 hZ hG hS hml hl hown htb hlocks (by simp [za_exs]) (by simp [za_texts]) (by decide +kernel) hk149 hiNSE (fun w h => hts w (by simp only [wsX6_recorderNumbered, List.mem_cons, List.mem_append, h, or_true, true_or])) zt_ng_NSE zt_gd_NSE dX6_recorderNumbered_28 dX6_recorderNumbered_31 dX6_recorderNumbered_32 dX6_recorderNumbered_35 dX6_recorderNumbered_38 (by decide) (by decide) (by first | (show _ + 1 ≤ _; omega) | decide) (by first | (show _ + 6 ≤ _; omega) | decide) (by omega) (by omega) ⟨rfl, by rw [hx1]; first | omega | exact hJ.kn c_25, rfl⟩
    · exact absurd hx0 c_1
  · have hl : lv_has ls 3 [(0, .ref (ad 0 0)), (1, .int (nI n))] := hl
    refine lv_iload_n hx hb dX6_recorderNumbered_0 rfl (lv_at hl 1 rfl) ?_
    refine zb_if_lt (x := n) (tgt := 13) hx hb (by omega) dX6_recorderNumbered_1 (by decide) ?_
    refine lv_iload_n hx hb dX6_recorderNumbered_4 rfl (lv_at hl 1 rfl) ?_
    refine lv_aload_n hx hb dX6_recorderNumbered_5 rfl (lv_at hl 0 rfl) ?_
    refine zg_BR_recorders hx hb hts hinX6 hown hf23 hK hG dX6_recorderNumbered_6 ?_
    refine zl_RC hx hb hK hG dX6_recorderNumbered_9 ?_
    refine zb_icmp_lt (x := n) (y := 8) (tgt := 17) hx hb (by omega) (by omega) dX6_recorderNumbered_10 (by decide) (fun c_10 => ?_) (fun c_10 => ?_)
    · refine lv_aload_n hx hb dX6_recorderNumbered_17 rfl (lv_at hl 0 rfl) ?_
      refine zg_BR_recorders hx hb hts hinX6 hown hf23 hK hG dX6_recorderNumbered_18 ?_
      refine lv_iload_n hx hb dX6_recorderNumbered_21 rfl (lv_at hl 1 rfl) ?_
      refine zld_RC (r := X.2 3 n 0) hx hb hK hG (by omega) rfl dX6_recorderNumbered_22 ?_
      refine zb_ostore_n (ad := ad) (κ := 11) (r := X.2 3 n 0) (lv' := [(2, za_o ad 11 (X.2 3 n 0)), (0, .ref (ad 0 0)), (1, .int (nI n))]) hx hb dX6_recorderNumbered_23 rfl hl (by decide) rfl (fun ls hl => ?_)
      refine zb_oload_n hx hb dX6_recorderNumbered_24 rfl (lv_at hl 0 rfl) ?_
      refine zb_ifnonnull (κ := 11) (r := X.2 3 n 0) (tgt := 39) hx hb dX6_recorderNumbered_25 (by decide) (fun x_1 c_25 => ?_) (fun c_25 => ?_)
      · rw [c_25] at hl
        have hv_2 : ∀ z, X.2 3 n 0 = some z → z < X.1 5 2 0 := (hJ.kv n)
        refine lv_aload_n hx hb dX6_recorderNumbered_39 rfl (lv_at hl 0 rfl) ?_
        exact vx_ret (zm_qret (r := some x_1) hx hb hr hlocks hG hS (by omega) (by omega) ⟨by rw [hx1, (hJ.k c_25).1], by rw [hx1]; exact (hJ.k c_25).2, rfl⟩ dX6_recorderNumbered_40)
      · rw [c_25] at hl
        exact zt_throwWX (cls := "java/util/NoSuchElementException") (text := "there is no such recorder") (ik := 149) (is := 257) (ic := 153) hx hb hl0 hZ hG hS hml hl hown htb hlocks (by simp [za_exs]) (by simp [za_texts]) (by decide +kernel) hk149 hiNSE (fun w h => hts w (by simp only [wsX6_recorderNumbered, List.mem_cons, List.mem_append, h, or_true, true_or])) zt_ng_NSE zt_gd_NSE dX6_recorderNumbered_28 dX6_recorderNumbered_31 dX6_recorderNumbered_32 dX6_recorderNumbered_35 dX6_recorderNumbered_38 (by decide) (by decide) (by first | (show _ + 1 ≤ _; omega) | decide) (by first | (show _ + 6 ≤ _; omega) | decide) (by omega) (by omega) ⟨rfl, by rw [hx1]; first | omega | exact hJ.kn c_25, rfl⟩
    · refine lv_null hx hb dX6_recorderNumbered_13 ?_
      refine zb_goto (tgt := 23) hx hb dX6_recorderNumbered_14 (by decide) ?_
      refine zb_ostore_n (ad := ad) (κ := 8) (r := none) (lv' := [(2, .null), (0, .ref (ad 0 0)), (1, .int (nI n))]) hx hb dX6_recorderNumbered_23 rfl hl (by decide) rfl (fun ls hl => ?_)
      refine lv_aload_nN hx hb dX6_recorderNumbered_24 rfl (lv_at hl 0 rfl) ?_
      refine lv_ifnonnullN hx hb dX6_recorderNumbered_25 ?_
      exact zt_throwWX (cls := "java/util/NoSuchElementException") (text := "there is no such recorder") (ik := 149) (is := 257) (ic := 153) hx hb hl0 hZ hG hS hml hl hown htb hlocks (by simp [za_exs]) (by simp [za_texts]) (by decide +kernel) hk149 hiNSE (fun w h => hts w (by simp only [wsX6_recorderNumbered, List.mem_cons, List.mem_append, h, or_true, true_or])) zt_ng_NSE zt_gd_NSE dX6_recorderNumbered_28 dX6_recorderNumbered_31 dX6_recorderNumbered_32 dX6_recorderNumbered_35 dX6_recorderNumbered_38 (by decide) (by decide) (by first | (show _ + 1 ≤ _; omega) | decide) (by first | (show _ + 6 ≤ _; omega) | decide) (by omega) (by omega) ⟨rfl, by rw [hx1]; first | omega | exact hJ.kn c_25, rfl⟩

set_option maxRecDepth 100000 in
set_option maxHeartbeats 4000000 in
theorem c_X6_requireUpTo (l : Launch) (hl0 : l.stackTraces = false) {E : za_E} {b : Nat} {ad : za_Ad} {S X T Y : za_S} {ow : Int64} {dw : UInt64} (q : Nat) (x : Int32) (hq : q < 2 ^ 31) : vx_Met l yX6_requireUpTo wsX6_requireUpTo ({ frames := 6, cells := 1, slots := 6, locals := 82 } : Room) (za_Pc E b (ad, S, X, T, Y, ow, dw) [.int (nI q), .int x]) (za_Qv E b (fun u => zs_ix x ≤ q ∧ u = (ad, S, X, T, Y, ow, dw))) (za_X E b (fun En u => En = "java/lang/IllegalArgumentException" ∧ ¬ zs_ix x ≤ q ∧ u = (ad, S, X, T, Y, ow, dw))) (1) (6) (za_A b) := by
  refine zx_met (ccm := cX6_requireUpTo) (maxL := 2) (ret := none) (ws' := _) (own := RX6) (lv := [(0, .int (nI q)), (1, .int x)]) (by decide) rfl rfl rfl (by simp [lg_sl, Value.category]) ?_
  intro pg en s m below meth c hx hb hml hr hown hts hlocks htb hK hZ hb0 hG hS ls hl
  have hiIAE := hts (.initialized "java/lang/IllegalArgumentException") (by decide +kernel)
  have hk116 := hts (.classLink RX6 116 "java/lang/IllegalArgumentException") (by decide +kernel)
  skip
  rcases zs_ixc x with ⟨hx0, hx1⟩ | ⟨n, hxn, rfl, hx1⟩
  · have hl : lv_has ls 2 [(0, .int (nI q)), (1, .int x)] := hl
    refine lv_iload_n hx hb dX6_requireUpTo_0 rfl (lv_at hl 1 rfl) ?_
    refine lv_if_lt (tgt := 9) hx hb dX6_requireUpTo_1 (by decide) (fun c_1 => ?_) (fun c_1 => ?_)
    · exact zt_throwW (cls := "java/lang/IllegalArgumentException") (text := "the number is out of range") (ik := 116) (is := 259) (ic := 120) hx hb hl0 hZ hG hS hml hl hown htb hlocks (by simp [za_exs]) (by simp [za_texts]) (by decide +kernel) hk116 hiIAE (fun w h => hts w (by simp only [wsX6_requireUpTo, List.mem_cons, List.mem_append, h, or_true, true_or])) zt_ng_IAE zt_gd_IAE dX6_requireUpTo_9 dX6_requireUpTo_12 dX6_requireUpTo_13 dX6_requireUpTo_16 dX6_requireUpTo_19 (by decide) (by decide) (by first | (show _ + 1 ≤ _; omega) | decide) (by first | (show _ + 6 ≤ _; omega) | decide) (by omega) (by omega) ⟨rfl, by rw [hx1]; omega, rfl⟩
    · exact absurd hx0 c_1
  · have hl : lv_has ls 2 [(0, .int (nI q)), (1, .int (nI n))] := hl
    refine lv_iload_n hx hb dX6_requireUpTo_0 rfl (lv_at hl 1 rfl) ?_
    refine zb_if_lt (x := n) (tgt := 9) hx hb (by omega) dX6_requireUpTo_1 (by decide) ?_
    refine lv_iload_n hx hb dX6_requireUpTo_4 rfl (lv_at hl 1 rfl) ?_
    refine lv_iload_n hx hb dX6_requireUpTo_5 rfl (lv_at hl 0 rfl) ?_
    refine zb_icmp_le (x := n) (y := q) (tgt := 20) hx hb (by omega) (by omega) dX6_requireUpTo_6 (by decide) (fun c_6 => ?_) (fun c_6 => ?_)
    · exact vx_ret (zm_vret hx hb hr hlocks hG hS (by omega) (by omega) ⟨by rw [hx1]; exact c_6, rfl⟩ dX6_requireUpTo_20)
    · exact zt_throwW (cls := "java/lang/IllegalArgumentException") (text := "the number is out of range") (ik := 116) (is := 259) (ic := 120) hx hb hl0 hZ hG hS hml hl hown htb hlocks (by simp [za_exs]) (by simp [za_texts]) (by decide +kernel) hk116 hiIAE (fun w h => hts w (by simp only [wsX6_requireUpTo, List.mem_cons, List.mem_append, h, or_true, true_or])) zt_ng_IAE zt_gd_IAE dX6_requireUpTo_9 dX6_requireUpTo_12 dX6_requireUpTo_13 dX6_requireUpTo_16 dX6_requireUpTo_19 (by decide) (by decide) (by first | (show _ + 1 ≤ _; omega) | decide) (by first | (show _ + 6 ≤ _; omega) | decide) (by omega) (by omega) ⟨rfl, by rw [hx1]; omega, rfl⟩

set_option maxRecDepth 100000 in
set_option maxHeartbeats 4000000 in
theorem c_X6_numberOf (l : Launch) {E : za_E} {b : Nat} {ad : za_Ad} {S X T Y : za_S} {ow : Int64} {dw : UInt64} (q : Option Nat) (hq : ∀ x, q = some x → x < X.1 5 0 0) : Met l yX6_numberOf wsX6_numberOf ({ frames := 0, cells := 0, slots := 0, locals := 0 } : Room) (za_Pc E b (ad, S, X, T, Y, ow, dw) [za_o ad 8 q]) (za_Qi E b (fun r u => r = za_enc q ∧ u = (ad, S, X, T, Y, ow, dw))) (0) (0) (za_A b) := by
  refine zm_met (ccm := cX6_numberOf) (maxL := 1) (ret := (some .int)) (ws' := _) (own := RX6) (lv := [(0, za_o ad 8 q)]) (by decide) rfl rfl (by simp [lv_args, za_cat, za_catr, za_cati]) (by simp [lg_sl, za_cat, za_catr, za_cati]) ?_
  intro pg en s m below meth c hx hb hml hr hown hts hlocks hK hZ hb0 hG hS ls hl
  have hf145 := hts (.fieldLink RX6 145 "VideoBridge$Person" "number" "I") (by decide +kernel)
  have hinX2 : ∀ w ∈ u_ws RX2 TX2 8, w ∈ wsX6_numberOf := by decide +kernel
  skip
  refine zb_oload_n hx hb dX6_numberOf_0 rfl (lv_at hl 0 rfl) ?_
  refine zb_ifnonnull (κ := 8) (r := q) (tgt := 8) hx hb dX6_numberOf_1 (by decide) (fun x_1 c_1 => ?_) (fun c_1 => ?_)
  · subst c_1
    refine lv_aload_n hx hb dX6_numberOf_8 rfl (lv_at hl 0 rfl) ?_
    refine zg_PE_number hx hb hts hinX2 hown hf145 hK hG x_1 (hq _ rfl) dX6_numberOf_9 ?_
    exact zm_iret hx hb hr hlocks hG hS (by omega) (by omega) ⟨rfl, rfl⟩ dX6_numberOf_12
  · subst c_1
    refine zb_iconstm hx hb dX6_numberOf_4 ?_
    refine zb_goto (tgt := 12) hx hb dX6_numberOf_5 (by decide) ?_
    exact zm_iret hx hb hr hlocks hG hS (by omega) (by omega) ⟨rfl, rfl⟩ dX6_numberOf_12

set_option maxRecDepth 100000 in
set_option maxHeartbeats 4000000 in
theorem c_X6_areTogether (l : Launch) {E : za_E} {b : Nat} {ad : za_Ad} {S X T Y : za_S} {ow : Int64} {dw : UInt64} (q1 q2 : Option Nat) (hq1 : ∀ x, q1 = some x → x < X.1 5 0 0) (hq2 : ∀ x, q2 = some x → x < X.1 5 0 0) (hro : ∀ a r, a < X.1 5 0 0 → S.2 0 a 0 = some r → r < X.1 5 1 0) : Met l yX6_areTogether wsX6_areTogether ({ frames := 0, cells := 0, slots := 0, locals := 0 } : Room) (za_Pc E b (ad, S, X, T, Y, ow, dw) [za_o ad 8 q1, za_o ad 8 q2]) (za_Qi E b (fun r u => r = nI (if zs_tg S q1 q2 = true then 1 else 0) ∧ u = (ad, S, X, T, Y, ow, dw))) (0) (0) (za_A b) := by
  refine zm_met (ccm := cX6_areTogether) (maxL := 2) (ret := (some .boolean)) (ws' := _) (own := RX6) (lv := [(0, za_o ad 8 q1), (1, za_o ad 8 q2)]) (by decide) rfl rfl (by simp [lv_args, za_cat, za_catr, za_cati]) (by simp [lg_sl, za_cat, za_catr, za_cati]) ?_
  intro pg en s m below meth c hx hb hml hr hown hts hlocks hK hZ hb0 hG hS ls hl
  have hf93 := hts (.fieldLink RX6 93 "VideoBridge$Person" "room" "LVideoBridge$Room;") (by decide +kernel)
  have hinX2 : ∀ w ∈ u_ws RX2 TX2 8, w ∈ wsX6_areTogether := by decide +kernel
  skip
  refine zb_oload_n hx hb dX6_areTogether_0 rfl (lv_at hl 0 rfl) ?_
  refine zb_ifnull (κ := 8) (r := q1) (tgt := 30) hx hb dX6_areTogether_1 (by decide) (fun c_1 => ?_) (fun x_1 c_1 => ?_)
  · subst c_1
    refine zb_iconst (n := 0) hx hb dX6_areTogether_30 (by decide) ?_
    exact zm_zret hx hb hr rfl hlocks hG hS (by omega) (by omega) ⟨by first | (simp [zs_tg]; done) | (simp [zs_tg, c_12]; done) | (simp [zs_tg, c_12, c_23]; done) | (simp [zs_tg, c_12, ← c_23]; done), rfl⟩ dX6_areTogether_31
  · subst c_1
    refine zb_oload_n hx hb dX6_areTogether_4 rfl (lv_at hl 1 rfl) ?_
    refine zb_ifnull (κ := 8) (r := q2) (tgt := 30) hx hb dX6_areTogether_5 (by decide) (fun c_5 => ?_) (fun x_2 c_5 => ?_)
    · subst c_5
      refine zb_iconst (n := 0) hx hb dX6_areTogether_30 (by decide) ?_
      exact zm_zret hx hb hr rfl hlocks hG hS (by omega) (by omega) ⟨by first | (simp [zs_tg]; done) | (simp [zs_tg, c_12]; done) | (simp [zs_tg, c_12, c_23]; done) | (simp [zs_tg, c_12, ← c_23]; done), rfl⟩ dX6_areTogether_31
    · subst c_5
      refine lv_aload_n hx hb dX6_areTogether_8 rfl (lv_at hl 0 rfl) ?_
      refine zg_PE_room hx hb hts hinX2 hown hf93 hK hG x_1 (hq1 _ rfl) (r := S.2 0 x_1 0) rfl dX6_areTogether_9 ?_
      refine zb_ifnull (κ := 9) (r := S.2 0 x_1 0) (tgt := 30) hx hb dX6_areTogether_12 (by decide) (fun c_12 => ?_) (fun x_3 c_12 => ?_)
      · refine zb_iconst (n := 0) hx hb dX6_areTogether_30 (by decide) ?_
        exact zm_zret hx hb hr rfl hlocks hG hS (by omega) (by omega) ⟨by first | (simp [zs_tg]; done) | (simp [zs_tg, c_12]; done) | (simp [zs_tg, c_12, c_23]; done) | (simp [zs_tg, c_12, ← c_23]; done), rfl⟩ dX6_areTogether_31
      · refine lv_aload_n hx hb dX6_areTogether_15 rfl (lv_at hl 0 rfl) ?_
        refine zg_PE_room hx hb hts hinX2 hown hf93 hK hG x_1 (hq1 _ rfl) (r := some x_3) c_12 dX6_areTogether_16 ?_
        refine lv_aload_n hx hb dX6_areTogether_19 rfl (lv_at hl 1 rfl) ?_
        refine zg_PE_room hx hb hts hinX2 hown hf93 hK hG x_2 (hq2 _ rfl) (r := S.2 0 x_2 0) rfl dX6_areTogether_20 ?_
        refine zb_acmp_ne (tgt := 30) hx hb hG 9 (by decide) (some x_3) (S.2 0 x_2 0) (by rintro _ ⟨⟩; exact (hro _ _ (hq1 _ rfl) c_12)) (hro x_2 · (hq2 _ rfl)) dX6_areTogether_23 (by decide) (fun c_23 => ?_) (fun c_23 => ?_)
        · refine zb_iconst (n := 0) hx hb dX6_areTogether_30 (by decide) ?_
          exact zm_zret hx hb hr rfl hlocks hG hS (by omega) (by omega) ⟨by first | (simp [zs_tg]; done) | (simp [zs_tg, c_12]; done) | (simp [zs_tg, c_12, c_23]; done) | (simp [zs_tg, c_12, ← c_23]; done), rfl⟩ dX6_areTogether_31
        · refine zb_iconst (n := 1) hx hb dX6_areTogether_26 (by decide) ?_
          refine zb_goto (tgt := 31) hx hb dX6_areTogether_27 (by decide) ?_
          exact zm_zret hx hb hr rfl hlocks hG hS (by omega) (by omega) ⟨by first | (simp [zs_tg]; done) | (simp [zs_tg, c_12]; done) | (simp [zs_tg, c_12, c_23]; done) | (simp [zs_tg, c_12, ← c_23]; done), rfl⟩ dX6_areTogether_31

set_option maxRecDepth 100000 in
set_option maxHeartbeats 4000000 in
theorem c_X6_isRoomLeft (l : Launch) {E : za_E} {b : Nat} {ad : za_Ad} {S X T Y : za_S} {ow : Int64} {dw : UInt64}  (hBS : zs_B S) : Met l yX6_isRoomLeft wsX6_isRoomLeft ({ frames := 0, cells := 0, slots := 0, locals := 0 } : Room) (za_Pc E b (ad, S, X, T, Y, ow, dw) [.ref (ad 0 0)]) (za_Qi E b (fun r u => r = nI (if S.1 0 1 0 < 6 then 1 else 0) ∧ u = (ad, S, X, T, Y, ow, dw))) (0) (0) (za_A b) := by
  refine zm_met (ccm := cX6_isRoomLeft) (maxL := 1) (ret := (some .boolean)) (ws' := _) (own := RX6) (lv := [(0, .ref (ad 0 0))]) (by decide) rfl rfl rfl (by simp [lg_sl, Value.category]) ?_
  intro pg en s m below meth c hx hb hml hr hown hts hlocks hK hZ hb0 hG hS ls hl
  have hf146 := hts (.fieldLink RX6 146 "VideoBridge" "roomCount" "I") (by decide +kernel)
  have hinX6 : ∀ w ∈ u_ws RX6 TX6 11, w ∈ wsX6_isRoomLeft := by decide +kernel
  skip
  refine lv_aload_n hx hb dX6_isRoomLeft_0 rfl (lv_at hl 0 rfl) ?_
  refine zg_BR_roomCount hx hb hts hinX6 hown hf146 hK hG (n := S.1 0 1 0) rfl dX6_isRoomLeft_1 ?_
  refine zb_bipush (n := 6) hx hb dX6_isRoomLeft_4 (by decide) ?_
  refine zb_icmp_ge (x := S.1 0 1 0) (y := 6) (tgt := 13) hx hb (by have := hBS 0 1 0; omega) (by omega) dX6_isRoomLeft_6 (by decide) (fun c_6 => ?_) (fun c_6 => ?_)
  · refine zb_iconst (n := 0) hx hb dX6_isRoomLeft_13 (by decide) ?_
    exact zm_zret hx hb hr rfl hlocks hG hS (by omega) (by omega) ⟨by first | rw [if_pos (by omega)] | rw [if_neg (by omega)], rfl⟩ dX6_isRoomLeft_14
  · refine zb_iconst (n := 1) hx hb dX6_isRoomLeft_9 (by decide) ?_
    refine zb_goto (tgt := 14) hx hb dX6_isRoomLeft_10 (by decide) ?_
    exact zm_zret hx hb hr rfl hlocks hG hS (by omega) (by omega) ⟨by first | rw [if_pos (by omega)] | rw [if_neg (by omega)], rfl⟩ dX6_isRoomLeft_14

set_option maxRecDepth 100000 in
set_option maxHeartbeats 4000000 in
theorem c_X6_move (l : Launch) {E : za_E} {b : Nat} {ad : za_Ad} {S X T Y : za_S} {ow : Int64} {dw : UInt64} (pp : Nat) (q : Option Nat) (hp : pp < X.1 5 0 0) (hro : ∀ r, S.2 0 pp 0 = some r → r < X.1 5 1 0 ∧ S.1 5 r 0 ≤ 10 ∧ (∀ j, j < S.1 5 r 0 → ∃ x, S.2 2 r j = some x) ∧ (∀ x, S.2 3 r 0 = some x → x < X.1 5 0 0) ∧ (∀ x, S.2 4 r 0 = some x → x < X.1 5 0 0) ∧ zs_pl S r pp < S.1 5 r 0) (hpe : ∀ r i x, S.2 2 r i = some x → x < X.1 5 0 0) (hto : ∀ t, q = some t → t < X.1 5 1 0 ∧ (zs_mo S pp).1 5 t 0 < 10) (hBm : zs_B (zs_mo S pp)) (hBX : zs_B X) (hBS : zs_B S) : Met l yX6_move wsX6_move ({ frames := 3, cells := 0, slots := 0, locals := 67 } : Room) (za_Pc E b (ad, S, X, T, Y, ow, dw) [.ref (ad 8 pp), za_o ad 9 q]) (za_Qv E b (fun u => u = (ad, zs_mv S pp q, X, T, Y, ow, dw))) (0) (0) (za_A b) := by
  refine zm_met (ccm := cX6_move) (maxL := 2) (ret := none) (ws' := _) (own := RX6) (lv := [(0, .ref (ad 8 pp)), (1, za_o ad 9 q)]) (by decide) rfl rfl (by simp [lv_args, za_cat, za_catr, za_cati]) (by simp [lg_sl, za_cat, za_catr, za_cati]) ?_
  intro pg en s m below meth c hx hb hml hr hown hts hlocks hK hZ hb0 hG hS ls hl
  have hf93 := hts (.fieldLink RX6 93 "VideoBridge$Person" "room" "LVideoBridge$Room;") (by decide +kernel)
  have hinX2 : ∀ w ∈ u_ws RX2 TX2 8, w ∈ wsX6_move := by decide +kernel
  skip
  refine lv_aload_n hx hb dX6_move_0 rfl (lv_at hl 0 rfl) ?_
  refine zg_PE_room hx hb hts hinX2 hown hf93 hK hG pp hp (r := S.2 0 pp 0) rfl dX6_move_1 ?_
  refine zb_ifnull (κ := 9) (r := S.2 0 pp 0) (tgt := 15) hx hb dX6_move_4 (by decide) (fun c_4 => ?_) (fun x_1 c_4 => ?_)
  · have emo : zs_mo S pp = S := by simp only [zs_mo, c_4]
    refine lv_aload_n hx hb dX6_move_15 rfl (lv_at hl 0 rfl) ?_
    refine zb_oload_n hx hb dX6_move_16 rfl (lv_at hl 1 rfl) ?_
    refine zp_PE_room hx hb hts hinX2 hown hf93 hS hK hG pp hp q dX6_move_17 (fun H locs hG hS => ?_)
    refine zb_oload_n hx hb dX6_move_20 rfl (lv_at hl 1 rfl) ?_
    refine zb_ifnull (κ := 9) (r := q) (tgt := 29) hx hb dX6_move_21 (by decide) (fun c_21 => ?_) (fun x_2 c_21 => ?_)
    · subst c_21
      exact zm_vret hx hb hr hlocks hG hS (by omega) (by omega) (by simp only [zs_mv, emo, zs_mi]) dX6_move_29
    · subst c_21
      refine lv_aload_n hx hb dX6_move_24 rfl (lv_at hl 1 rfl) ?_
      refine lv_aload_n hx hb dX6_move_25 rfl (lv_at hl 0 rfl) ?_
      refine zc_Vv (As := [.ref (ad 8 pp)]) (rest := []) hK hZ hb0 hG hS hx hb hml hown hts (c_X4_letIn l x_2 pp (hto _ rfl).1 hp (by have h9 := (hto _ rfl).2; rw [emo] at h9; exact h9) hBX (zs_P_B (by rw [← emo]; exact hBm) _ _ _ _)) (cwV 1 hts gX6_move_X4_letIn rfl rfl rfl (by decide +kernel) ⟨Nat.le_of_ble_eq_true rfl, Nat.le_of_ble_eq_true rfl⟩) (za_recv (q := (RX4, TX4, 6)) hK hG 9 x_2 (show x_2 < X.1 5 1 0 from ((fun t ht => (hto t ht).1) _ rfl)) rfl rfl rfl) rfl hl rfl (Nat.le_of_ble_eq_true rfl) dX6_move_26 ⟨Nat.le_of_ble_eq_true rfl, Nat.le_of_ble_eq_true rfl⟩ (fun u_26 H locs hp hG hS => ?_)
      subst hp
      exact zm_vret hx hb hr hlocks hG hS (by omega) (by omega) (by simp only [zs_mv, emo, zs_mi]) dX6_move_29
  · refine lv_aload_n hx hb dX6_move_7 rfl (lv_at hl 0 rfl) ?_
    refine zg_PE_room hx hb hts hinX2 hown hf93 hK hG pp hp (r := some x_1) c_4 dX6_move_8 ?_
    refine lv_aload_n hx hb dX6_move_11 rfl (lv_at hl 0 rfl) ?_
    refine zc_Vv (As := [.ref (ad 8 pp)]) (rest := []) hK hZ hb0 hG hS hx hb hml hown hts (c_X4_letOut l x_1 pp (zs_pl S x_1 pp) (hro _ c_4).1 hp (hro _ c_4).2.1 (hpe x_1) (hro _ c_4).2.2.1 (hro _ c_4).2.2.2.1 (hro _ c_4).2.2.2.2.1 (hro _ c_4).2.2.2.2.2 (zs_fd_yes _ _ _ (hro _ c_4).2.2.2.2.2) (fun j hj => zs_fd_no _ _ _ j hj (Nat.lt_trans hj (hro _ c_4).2.2.2.2.2)) hBX hBS) (cwV 1 hts gX6_move_X4_letOut rfl rfl rfl (by decide +kernel) ⟨Nat.le_of_ble_eq_true rfl, Nat.le_of_ble_eq_true rfl⟩) (za_recv (q := (RX4, TX4, 6)) hK hG 9 x_1 (show x_1 < X.1 5 1 0 from (hro _ c_4).1) rfl rfl rfl) rfl hl rfl (Nat.le_of_ble_eq_true rfl) dX6_move_12 ⟨Nat.le_of_ble_eq_true rfl, Nat.le_of_ble_eq_true rfl⟩ (fun u_12 H locs hp hG hS => ?_)
    subst hp
    have emo : zs_mo S pp = zs_out S x_1 pp (zs_pl S x_1 pp) := by simp only [zs_mo, c_4]
    refine lv_aload_n hx hb dX6_move_15 rfl (lv_at hl 0 rfl) ?_
    refine zb_oload_n hx hb dX6_move_16 rfl (lv_at hl 1 rfl) ?_
    refine zp_PE_room hx hb hts hinX2 hown hf93 hS hK hG pp hp q dX6_move_17 (fun H locs hG hS => ?_)
    refine zb_oload_n hx hb dX6_move_20 rfl (lv_at hl 1 rfl) ?_
    refine zb_ifnull (κ := 9) (r := q) (tgt := 29) hx hb dX6_move_21 (by decide) (fun c_21 => ?_) (fun x_3 c_21 => ?_)
    · subst c_21
      exact zm_vret hx hb hr hlocks hG hS (by omega) (by omega) (by simp only [zs_mv, emo, zs_mi]) dX6_move_29
    · subst c_21
      refine lv_aload_n hx hb dX6_move_24 rfl (lv_at hl 1 rfl) ?_
      refine lv_aload_n hx hb dX6_move_25 rfl (lv_at hl 0 rfl) ?_
      refine zc_Vv (As := [.ref (ad 8 pp)]) (rest := []) hK hZ hb0 hG hS hx hb hml hown hts (c_X4_letIn l x_3 pp (hto _ rfl).1 hp (by have h9 := (hto _ rfl).2; rw [emo] at h9; exact h9) hBX (zs_P_B (by rw [← emo]; exact hBm) _ _ _ _)) (cwV 1 hts gX6_move_X4_letIn rfl rfl rfl (by decide +kernel) ⟨Nat.le_of_ble_eq_true rfl, Nat.le_of_ble_eq_true rfl⟩) (za_recv (q := (RX4, TX4, 6)) hK hG 9 x_3 (show x_3 < X.1 5 1 0 from ((fun t ht => (hto t ht).1) _ rfl)) rfl rfl rfl) rfl hl rfl (Nat.le_of_ble_eq_true rfl) dX6_move_26 ⟨Nat.le_of_ble_eq_true rfl, Nat.le_of_ble_eq_true rfl⟩ (fun u_26 H locs hp hG hS => ?_)
      subst hp
      exact zm_vret hx hb hr hlocks hG hS (by omega) (by omega) (by simp only [zs_mv, emo, zs_mi]) dX6_move_29

set_option maxRecDepth 100000 in
set_option maxHeartbeats 4000000 in
theorem c_X6_chooseViews (l : Launch) {E : za_E} {b : Nat} {ad : za_Ad} {S X T Y : za_S} {ow : Int64} {dw : UInt64}  (hJ : zs_J S X) (hVa : zs_Va S) (hBX : zs_B X) (hBS : zs_B S) : Met l yX6_chooseViews wsX6_chooseViews ({ frames := 4, cells := 0, slots := 0, locals := 89 } : Room) (za_Pc E b (ad, S, X, T, Y, ow, dw) [.ref (ad 0 0)]) (za_Qv E b (fun u => ∃ X2, u = (ad, S, X2, T, Y, ow, dw) ∧ zs_fv X X2 ∧ zs_B X2 ∧ zs_vw S X2 10 ∧ X2.1 3 0 0 = zs_ua S 10)) (0) (0) (za_A b) := by
  refine zm_met (ccm := cX6_chooseViews) (maxL := 7) (ret := none) (ws' := _) (own := RX6) (lv := [(0, .ref (ad 0 0))]) (by decide) rfl rfl rfl (by simp [lg_sl, Value.category]) ?_
  intro pg en s m below meth c hx hb hml hr hown hts hlocks hK hZ hb0 hG hS ls hl
  have hf11 := hts (.fieldLink RX6 11 "VideoBridge" "everybody" "[LVideoBridge$Person;") (by decide +kernel)
  have hf186 := hts (.fieldLink RX6 186 "VideoBridge$Person" "layers" "LVideoBridge$Layers;") (by decide +kernel)
  have hf199 := hts (.fieldLink RX6 199 "VideoBridge$Chooser" "chosen" "LVideoBridge$Layers;") (by decide +kernel)
  have hf216 := hts (.fieldLink RX6 216 "VideoBridge" "usedByAll" "J") (by decide +kernel)
  have hf39 := hts (.fieldLink RX6 39 "VideoBridge" "chooser" "LVideoBridge$Chooser;") (by decide +kernel)
  have hinX6 : ∀ w ∈ u_ws RX6 TX6 11, w ∈ wsX6_chooseViews := by decide +kernel
  have hinX0 : ∀ w ∈ u_ws RX0 TX0 4, w ∈ wsX6_chooseViews := by decide +kernel
  have hinX2 : ∀ w ∈ u_ws RX2 TX2 8, w ∈ wsX6_chooseViews := by decide +kernel
  skip
  refine lv_lconst (v := lN 0) hx hb dX6_chooseViews_0 (by decide) ?_
  refine lv_lstore_n (lv' := [(1, .long (lN 0)), (0, .ref (ad 0 0))]) hx hb dX6_chooseViews_1 rfl hl (by decide) rfl (fun ls hl => ?_)
  refine lv_aload_n hx hb dX6_chooseViews_2 rfl (lv_at hl 1 rfl) ?_
  refine zg_BR_everybody hx hb hts hinX6 hown hf11 hK hG dX6_chooseViews_3 ?_
  refine lv_astore_n (lv' := [(3, .ref (ad 1 0)), (1, .long (lN 0)), (0, .ref (ad 0 0))]) hx hb dX6_chooseViews_6 rfl hl (by decide) rfl (fun ls hl => ?_)
  refine lv_aload_n hx hb dX6_chooseViews_7 rfl (lv_at hl 0 rfl) ?_
  refine zl_EV hx hb hK hG dX6_chooseViews_8 ?_
  refine lv_istore (lv' := [(4, .int (nI 10)), (3, .ref (ad 1 0)), (1, .long (lN 0)), (0, .ref (ad 0 0))]) hx hb dX6_chooseViews_9 hl (by decide) rfl (fun ls hl => ?_)
  refine zb_iconst (n := 0) hx hb dX6_chooseViews_11 (by decide) ?_
  refine lv_istore (lv' := [(5, .int (nI 0)), (4, .int (nI 10)), (3, .ref (ad 1 0)), (1, .long (lN 0)), (0, .ref (ad 0 0))]) hx hb dX6_chooseViews_12 hl (by decide) rfl (fun ls hl => ?_)
  have loop14 : ∀ (N : Nat) (X1 : za_S) (i : Nat), (i ≤ 10) → (zs_fv X X1) → (zs_B X1) → (zs_vw S X1 i) → 10 - i < N → ∀ (H : Heap) (locs : List Loc), za_G E b (ad, S, X1, T, Y, ow, dw) H → va_S (za_A b) s.heap H locs → ∀ ls : Array Slot, lv_has ls 7 [(0, .ref (ad 0 0)), (1, .long (lN (zs_ua S i))), (3, .ref (ad 1 0)), (4, .int (nI 10)), (5, .int (nI i))] → W pg l en ({ frames := 4, cells := 0, slots := 0, locals := 89 } : Room) s m ([.ref (ad 0 0)] : List Value).toArray below meth c H locs (0) (0) (MQ below (za_Qv E b (fun u => ∃ X2, u = (ad, S, X2, T, Y, ow, dw) ∧ zs_fv X X2 ∧ zs_B X2 ∧ zs_vw S X2 10 ∧ X2.1 3 0 0 = zs_ua S 10)) ([.ref (ad 0 0)] : List Value).toArray s (0) (0) (za_A b)) (F0 m 14 ls []) := by
    intro N
    induction N with
    | zero => intro X1 i hi hfv hB1 hvw hN; exact absurd hN (Nat.not_lt_zero _)
    | succ N ih14 =>
      intro X1 i hi hfv hB1 hvw hN H locs hG hS ls hl
      have hJ1 : zs_J S X1 := hJ.fv hfv
      refine lv_iload hx hb dX6_chooseViews_14 (lv_at hl 4 rfl) ?_
      refine lv_iload hx hb dX6_chooseViews_16 (lv_at hl 3 rfl) ?_
      refine zb_icmp_ge (x := i) (y := 10) (tgt := 74) hx hb (by omega) (by omega) dX6_chooseViews_18 (by decide) (fun c_18 => ?_) (fun c_18 => ?_)
      · refine lv_aload_n hx hb dX6_chooseViews_74 rfl (lv_at hl 0 rfl) ?_
        refine lv_lload_n hx hb dX6_chooseViews_75 rfl (lv_at hl 1 rfl) ?_
        refine zp_BR_usedByAll hx hb hts hinX6 hown hf216 hS hK hG dX6_chooseViews_76 (fun H locs hG hS => ?_)
        obtain rfl : i = 10 := by omega
        exact zm_vret hx hb hr hlocks hG hS (by omega) (by omega) ⟨_, rfl, hfv.tr (zs_fv_N3 _ _), zs_N_B hB1 (by have := zs_ua_le S 10; omega), fun v hv hn z hz => hvw v hv hn z hz, by simp [za_N]⟩ dX6_chooseViews_79
      · refine lv_aload_n hx hb dX6_chooseViews_21 rfl (lv_at hl 2 rfl) ?_
        refine lv_iload hx hb dX6_chooseViews_22 (lv_at hl 4 rfl) ?_
        refine zld_EV (r := X1.2 1 i 0) hx hb hK hG (by omega) rfl dX6_chooseViews_24 ?_
        refine zb_ostore (ad := ad) (κ := 8) (r := X1.2 1 i 0) (lv' := [(6, za_o ad 8 (X1.2 1 i 0)), (0, .ref (ad 0 0)), (1, .long (lN (zs_ua S i))), (3, .ref (ad 1 0)), (4, .int (nI 10)), (5, .int (nI i))]) hx hb dX6_chooseViews_25 hl (by decide) rfl (fun ls hl => ?_)
        refine zb_oload hx hb dX6_chooseViews_27 (lv_at hl 0 rfl) ?_
        refine zb_ifnull (κ := 8) (r := X1.2 1 i 0) (tgt := 68) hx hb dX6_chooseViews_29 (by decide) (fun c_29 => ?_) (fun x_1 c_29 => ?_)
        · rw [c_29] at hl
          refine zb_iinc (n := 1) (k := 5) (lv' := [(5, .int (nI (i + 1))), (6, .null), (0, .ref (ad 0 0)), (1, .long (lN (zs_ua S i))), (3, .ref (ad 1 0)), (4, .int (nI 10))]) hx hb dX6_chooseViews_68 hl rfl (by decide) (by decide) rfl (fun ls hl => ?_)
          refine zb_goto (tgt := 14) hx hb dX6_chooseViews_71 (by decide) ?_
          have e9 : zs_ua S (i + 1) = zs_ua S i := by show zs_sum _ (i + 1) = _; rw [zs_sum, if_neg (hJ1.en c_29)]; rfl
          rw [← e9] at hl
          exact ih14 X1 (i + 1) (by omega) hfv hB1 (fun v hv hn => hvw v (by rcases Nat.lt_or_ge v i with h | h; exact h; exact absurd (by rw [show i = v by omega]; exact hn) (hJ1.en c_29)) hn) (by omega) _ _ hG hS ls (lv_sub hl [2, 3, 4, 5, 0] rfl)
        · rw [c_29] at hl
          have hyi : x_1 = i := (hJ1.e c_29).1
          have hin : i < S.1 0 0 0 := (hJ1.e c_29).2
          rw [hyi] at hl
          have hv_2 : ∀ z, X1.2 1 i 0 = some z → z < X1.1 5 0 0 := (hJ1.ev i)
          refine lv_aload_n hx hb dX6_chooseViews_32 rfl (lv_at hl 1 rfl) ?_
          refine zg_BR_chooser hx hb hts hinX6 hown hf39 hK hG dX6_chooseViews_33 ?_
          refine lv_aload hx hb dX6_chooseViews_36 (lv_at hl 0 rfl) ?_
          refine zc_Vv (As := [.ref (ad 8 i)]) (rest := []) hK hZ hb0 hG hS hx hb hml hown hts (c_X0_choose l i (by rw [hJ1.2.2.2.1, hJ1.2.2.2.2.1]; exact hVa i hin) hB1 hBS) (cwV 1 hts gX6_chooseViews_X0_choose rfl rfl rfl (by decide +kernel) ⟨Nat.le_of_ble_eq_true rfl, Nat.le_of_ble_eq_true rfl⟩) (za_recv (q := (RX0, TX0, 4)) hK hG 4 0 ⟨by omega, rfl⟩ rfl rfl rfl) rfl hl rfl (Nat.le_of_ble_eq_true rfl) dX6_chooseViews_38 ⟨Nat.le_of_ble_eq_true rfl, Nat.le_of_ble_eq_true rfl⟩ (fun u_38 H locs hp hG hS => ?_)
          obtain ⟨X2, rfl, f2, b2, c2⟩ := hp
          have hJ2 : zs_J S X2 := hJ1.fr f2
          have hi10 : i < 10 := by have := hJ.1; omega
          refine lv_aload hx hb dX6_chooseViews_41 (lv_at hl 0 rfl) ?_
          refine zg_PE_layers hx hb hts hinX2 hown hf186 hK hG i (hJ2.pe hin) dX6_chooseViews_43 ?_
          refine lv_aload_n hx hb dX6_chooseViews_46 rfl (lv_at hl 1 rfl) ?_
          refine zg_BR_chooser hx hb hts hinX6 hown hf39 hK hG dX6_chooseViews_47 ?_
          refine zg_CH_chosen hx hb hts hinX0 hown hf199 hK hG dX6_chooseViews_50 ?_
          refine zc_Vv (As := [.ref (ad 6 10)]) (rest := []) hK hZ hb0 hG hS hx hb hml hown hts (c_X1_takeOver l i 10 (Or.inl (hJ2.pe hin)) (Or.inr rfl) (by omega)) (cwV 1 hts gX6_chooseViews_X1_takeOver rfl rfl rfl (by decide +kernel) ⟨Nat.le_of_ble_eq_true rfl, Nat.le_of_ble_eq_true rfl⟩) (za_recv (q := (RX1, TX1, 1)) hK hG 6 i (show i < X2.1 5 0 0 ∨ i = 10 from (Or.inl (hJ2.pe hin))) rfl rfl rfl) rfl hl rfl (Nat.le_of_ble_eq_true rfl) dX6_chooseViews_53 ⟨Nat.le_of_ble_eq_true rfl, Nat.le_of_ble_eq_true rfl⟩ (fun u_53 H locs hp hG hS => ?_)
          subst hp
          refine lv_lload_n hx hb dX6_chooseViews_56 rfl (lv_at hl 2 rfl) ?_
          refine lv_aload hx hb dX6_chooseViews_57 (lv_at hl 0 rfl) ?_
          refine zg_PE_layers hx hb hts hinX2 hown hf186 hK hG i (hJ2.pe hin) dX6_chooseViews_59 ?_
          refine zc_Vi (As := []) (rest := [.long (lN (zs_ua S i))]) hK hZ hb0 hG hS hx hb hml hown hts (c_X1_needed l i (Or.inl (hJ2.pe hin)) (fun a q => Nat.lt_trans (zs_row_B b2 (fun j => b2 0 10 j) 0 a q) (by decide))) (cwV 0 hts gX6_chooseViews_X1_needed rfl rfl rfl (by decide +kernel) ⟨Nat.le_of_ble_eq_true rfl, Nat.le_of_ble_eq_true rfl⟩) (za_recv (q := (RX1, TX1, 1)) hK hG 6 i (show i < (zs_row X2 0 i 10 (X2.1 0 10)).1 5 0 0 ∨ i = 10 from (Or.inl (hJ2.pe hin))) rfl rfl rfl) rfl hl rfl (Nat.le_of_ble_eq_true rfl) dX6_chooseViews_62 ⟨Nat.le_of_ble_eq_true rfl, Nat.le_of_ble_eq_true rfl⟩ (fun r_62 u_62 H locs hp hG hS => ?_)
          obtain ⟨rfl, rfl⟩ := hp
          have eus : zs_us S i = zs_sum (fun j => zs_need ((zs_row X2 0 i 10 (X2.1 0 10)).1 0 i j)) 10 := by
            unfold zs_us
            exact zs_sum_congr 10 (fun j hj => by rw [← c2 j hj]; exact congrArg zs_need (if_pos ⟨rfl, rfl, hj⟩).symm)
          have hus := zs_us_le S i
          rw [eus] at hus
          refine zb_i2l hx hb (by omega) dX6_chooseViews_65 ?_
          refine zb_ladd hx hb dX6_chooseViews_66 ?_
          refine lv_lstore_n (lv' := [(1, .long (lN ((zs_ua S i) + (zs_sum (fun j => zs_need ((zs_row X2 0 i 10 (X2.1 0 10)).1 0 i j)) 10)))), (6, .ref (ad 8 i)), (0, .ref (ad 0 0)), (3, .ref (ad 1 0)), (4, .int (nI 10)), (5, .int (nI i))]) hx hb dX6_chooseViews_67 rfl hl (by decide) rfl (fun ls hl => ?_)
          refine zb_iinc (n := 1) (k := 5) (lv' := [(5, .int (nI (i + 1))), (1, .long (lN ((zs_ua S i) + (zs_sum (fun j => zs_need ((zs_row X2 0 i 10 (X2.1 0 10)).1 0 i j)) 10)))), (6, .ref (ad 8 i)), (0, .ref (ad 0 0)), (3, .ref (ad 1 0)), (4, .int (nI 10))]) hx hb dX6_chooseViews_68 hl rfl (by decide) (by decide) rfl (fun ls hl => ?_)
          refine zb_goto (tgt := 14) hx hb dX6_chooseViews_71 (by decide) ?_
          have e9 : zs_ua S (i + 1) = zs_ua S i + zs_us S i := by show zs_sum _ (i + 1) = _; rw [zs_sum, if_pos hin]; rfl
          rw [← eus, ← e9] at hl
          exact ih14 (zs_row X2 0 i 10 (X2.1 0 10)) (i + 1) (by omega) (hfv.tr (f2.fv.tr (zs_fv_row _ _ _ _))) (zs_row_B b2 (fun j => b2 0 10 j)) (zs_vw_s hvw f2 (by have := hJ.1; omega) hJ.1 c2) (by omega) _ _ hG hS ls (lv_sub hl [3, 1, 4, 5, 0] rfl)
  exact loop14 (_ + 1) X 0 (Nat.zero_le _) (zs_fv.rf X) hBX (fun v hv => absurd hv (Nat.not_lt_zero _)) (Nat.lt_succ_self _) _ _ hG hS ls (lv_sub hl [4, 3, 2, 1, 0] rfl)
