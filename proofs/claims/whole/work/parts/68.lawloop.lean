set_option maxRecDepth 100000 in
set_option maxHeartbeats 4000000 in
theorem lw_head {p : Program} {l : Launch} {e : Env} {s : State} {m : MethodId} {below : List Frame} {meth : Method} {c : Code} {bq b L : Nat} {xs : Nat → Int32} {E : za_E} (hl0 : l.stackTraces = false) (hL : L ≤ 1536) (C0 : lw_At p s m meth c bq L xs) (hK : za_K E s) (hZ : za_Z b s s.heap) (hAO : va_AO RX2 s) (hb0 : b ≤ s.heap.size) (hbe : s.heap.size ≤ b) (hbA : ¬ za_A b bq) {i : Nat} (hi : i ≤ L) (kk : i + 3 ≤ L → zl_at p l e s m below meth c bq b E (i + 3)) : zl_at p l e s m below meth c bq b E i := by
  intro ad S X Y ow dw H locs k n ls hG hS hD h6 hY hk hn hl
  have C1 := C0
  obtain ⟨hx, hb, hr, hml, hown, hts0, hX, hbl, hlocks, hgv⟩ := C0
  have hce := zs_ce_le hD.1
  refine lv_iload hx hb dL_law_28 (lv_at hl 5 rfl) ?_
  refine lv_aload_n hx hb dL_law_30 rfl (lv_at hl 0 rfl) ?_
  refine va_slen hx hb hX hbl hbA hS dL_law_31 ?_
  refine zb_iconst (n := 3) hx hb dL_law_32 (by decide) ?_
  refine lv_isub hx hb dL_law_33 ?_
  refine lv_icmp_gt (tgt := 2174) hx hb dL_law_34 (by decide) (fun c_34 => ?_) (fun c_34 => ?_)
  · refine lv_iconst (v := 1) hx hb dL_law_2174 (by decide) ?_
    refine va_forget (fun q hq => Nat.le_trans hbe (hS.2.2 q hq)) ?_
    refine W.widen (k := 603072) (n := 7207018) (by omega) (by omega) ?_
    refine W.base ?_
    exact lw_ret (d0 := s.drawn) (Drawn.sameBut.refl s.drawn lw_cs) hx hb hr hlocks dL_law_2175
  · have hi3 : i + 3 ≤ L := Nat.le_of_not_lt fun h => c_34 (Int32.lt_iff_toInt_lt.mpr (by
      rw [show (Int32.ofNat L - nI 3 : Int32).toInt = (L : Int) - (3 : Nat) from pk_sub_toInt (by omega) (by omega), nI_toInt (by omega)]
      omega))
    refine lv_aload_n hx hb dL_law_37 rfl (lv_at hl 0 rfl) ?_
    refine lv_iload hx hb dL_law_38 (lv_at hl 5 rfl) ?_
    refine va_sld hx hb hX hbl hbA hS (vp_in_nI (by omega) (by omega)) dL_law_40 ?_
    refine zb_bipush (n := 63) hx hb dL_law_41 (by decide) ?_
    refine lv_iand hx hb dL_law_43 ?_
    obtain ⟨j, hj, ej⟩ := pk_andE (xs (nI i).toNatClampNeg) (m := nI 63) 6 (by decide)
    rw [ej]
    by_cases h37 : j < 37
    · rcases (show j = 0 ∨ j = 1 ∨ j = 2 ∨ j = 3 ∨ j = 4 ∨ j = 5 ∨ j = 6 ∨ j = 7 ∨ j = 8 ∨ j = 9 ∨ j = 10 ∨ j = 11 ∨ j = 12 ∨ j = 13 ∨ j = 14 ∨ j = 15 ∨ j = 16 ∨ j = 17 ∨ j = 18 ∨ j = 19 ∨ j = 20 ∨ j = 21 ∨ j = 22 ∨ j = 23 ∨ j = 24 ∨ j = 25 ∨ j = 26 ∨ j = 27 ∨ j = 28 ∨ j = 29 ∨ j = 30 ∨ j = 31 ∨ j = 32 ∨ j = 33 ∨ j = 34 ∨ j = 35 ∨ j = 36 by omega) with rfl | rfl | rfl | rfl | rfl | rfl | rfl | rfl | rfl | rfl | rfl | rfl | rfl | rfl | rfl | rfl | rfl | rfl | rfl | rfl | rfl | rfl | rfl | rfl | rfl | rfl | rfl | rfl | rfl | rfl | rfl | rfl | rfl | rfl | rfl | rfl | rfl
      · refine lv_tableIn (off := 164) (tgt := 208) hx hb dL_law_44 (by decide) (by decide) (by rfl) (by decide) ?_
        exact lq_0 hl0 hL C1 hK hZ hAO hb0 hbA hi3 (kk hi3) hG hS hD h6 hY hk hn hl
      · refine lv_tableIn (off := 220) (tgt := 264) hx hb dL_law_44 (by decide) (by decide) (by rfl) (by decide) ?_
        exact lq_1 hl0 hL C1 hK hZ hAO hb0 hbA hi3 (kk hi3) hG hS hD h6 hY hk hn hl
      · refine lv_tableIn (off := 288) (tgt := 332) hx hb dL_law_44 (by decide) (by decide) (by rfl) (by decide) ?_
        exact lq_2 hl0 hL C1 hK hZ hAO hb0 hbA hi3 (kk hi3) hG hS hD h6 hY hk hn hl
      · refine lv_tableIn (off := 356) (tgt := 400) hx hb dL_law_44 (by decide) (by decide) (by rfl) (by decide) ?_
        exact lq_3 hl0 hL C1 hK hZ hAO hb0 hbA hi3 (kk hi3) hG hS hD h6 hY hk hn hl
      · refine lv_tableIn (off := 424) (tgt := 468) hx hb dL_law_44 (by decide) (by decide) (by rfl) (by decide) ?_
        exact lq_4 hl0 hL C1 hK hZ hAO hb0 hbA hi3 (kk hi3) hG hS hD h6 hY hk hn hl
      · refine lv_tableIn (off := 468) (tgt := 512) hx hb dL_law_44 (by decide) (by decide) (by rfl) (by decide) ?_
        exact lq_5 hl0 hL C1 hK hZ hAO hb0 hbA hi3 (kk hi3) hG hS hD h6 hY hk hn hl
      · refine lv_tableIn (off := 536) (tgt := 580) hx hb dL_law_44 (by decide) (by decide) (by rfl) (by decide) ?_
        exact lq_6 hl0 hL C1 hK hZ hAO hb0 hbA hi3 (kk hi3) hG hS hD h6 hY hk hn hl
      · refine lv_tableIn (off := 592) (tgt := 636) hx hb dL_law_44 (by decide) (by decide) (by rfl) (by decide) ?_
        exact lq_7 hl0 hL C1 hK hZ hAO hb0 hbA hi3 (kk hi3) hG hS hD h6 hY hk hn hl
      · refine lv_tableIn (off := 648) (tgt := 692) hx hb dL_law_44 (by decide) (by decide) (by rfl) (by decide) ?_
        exact lq_8 hl0 hL C1 hK hZ hAO hb0 hbA hi3 (kk hi3) hG hS hD h6 hY hk hn hl
      · refine lv_tableIn (off := 716) (tgt := 760) hx hb dL_law_44 (by decide) (by decide) (by rfl) (by decide) ?_
        exact lq_9 hl0 hL C1 hK hZ hAO hb0 hbA hi3 (kk hi3) hG hS hD h6 hY hk hn hl
      · refine lv_tableIn (off := 784) (tgt := 828) hx hb dL_law_44 (by decide) (by decide) (by rfl) (by decide) ?_
        exact lq_10 hl0 hL C1 hK hZ hAO hb0 hbA hi3 (kk hi3) hG hS hD h6 hY hk hn hl
      · refine lv_tableIn (off := 840) (tgt := 884) hx hb dL_law_44 (by decide) (by decide) (by rfl) (by decide) ?_
        exact lq_11 hl0 hL C1 hK hZ hAO hb0 hbA hi3 (kk hi3) hG hS hD h6 hY hk hn hl
      · refine lv_tableIn (off := 853) (tgt := 897) hx hb dL_law_44 (by decide) (by decide) (by rfl) (by decide) ?_
        exact lq_12 hl0 hL C1 hK hZ hAO hb0 hbA hi3 (kk hi3) hG hS hD h6 hY hk hn hl
      · refine lv_tableIn (off := 866) (tgt := 910) hx hb dL_law_44 (by decide) (by decide) (by rfl) (by decide) ?_
        exact lq_13 hl0 hL C1 hK hZ hAO hb0 hbA hi3 (kk hi3) hG hS hD h6 hY hk hn hl
      · refine lv_tableIn (off := 922) (tgt := 966) hx hb dL_law_44 (by decide) (by decide) (by rfl) (by decide) ?_
        exact lq_14 hl0 hL C1 hK hZ hAO hb0 hbA hi3 (kk hi3) hG hS hD h6 hY hk hn hl
      · refine lv_tableIn (off := 978) (tgt := 1022) hx hb dL_law_44 (by decide) (by decide) (by rfl) (by decide) ?_
        exact lq_15 hl0 hL C1 hK hZ hAO hb0 hbA hi3 (kk hi3) hG hS hD h6 hY hk hn hl
      · refine lv_tableIn (off := 1046) (tgt := 1090) hx hb dL_law_44 (by decide) (by decide) (by rfl) (by decide) ?_
        exact lq_16 hl0 hL C1 hK hZ hAO hb0 hbA hi3 (kk hi3) hG hS hD h6 hY hk hn hl
      · refine lv_tableIn (off := 1102) (tgt := 1146) hx hb dL_law_44 (by decide) (by decide) (by rfl) (by decide) ?_
        exact lq_17 hl0 hL C1 hK hZ hAO hb0 hbA hi3 (kk hi3) hG hS hD h6 hY hk hn hl
      · refine lv_tableIn (off := 1115) (tgt := 1159) hx hb dL_law_44 (by decide) (by decide) (by rfl) (by decide) ?_
        exact lq_18 hl0 hL C1 hK hZ hAO hb0 hbA hi3 (kk hi3) hG hS hD h6 hY hk hn hl
      · refine lv_tableIn (off := 1171) (tgt := 1215) hx hb dL_law_44 (by decide) (by decide) (by rfl) (by decide) ?_
        exact lq_19 hl0 hL C1 hK hZ hAO hb0 hbA hi3 (kk hi3) hG hS hD h6 hY hk hn hl
      · refine lv_tableIn (off := 1227) (tgt := 1271) hx hb dL_law_44 (by decide) (by decide) (by rfl) (by decide) ?_
        exact lq_20 hl0 hL C1 hK hZ hAO hb0 hbA hi3 (kk hi3) hG hS hD h6 hY hk hn hl
      · refine lv_tableIn (off := 1302) (tgt := 1346) hx hb dL_law_44 (by decide) (by decide) (by rfl) (by decide) ?_
        exact lq_21 hl0 hL C1 hK hZ hAO hb0 hbA hi3 (kk hi3) hG hS hD h6 hY hk hn hl
      · refine lv_tableIn (off := 1357) (tgt := 1401) hx hb dL_law_44 (by decide) (by decide) (by rfl) (by decide) ?_
        exact lq_22 hl0 hL C1 hK hZ hAO hb0 hbA hi3 (kk hi3) hG hS hD h6 hY hk hn hl
      · refine lv_tableIn (off := 1370) (tgt := 1414) hx hb dL_law_44 (by decide) (by decide) (by rfl) (by decide) ?_
        exact lq_23 hl0 hL C1 hK hZ hAO hb0 hbA hi3 (kk hi3) hG hS hD h6 hY hk hn hl
      · refine lv_tableIn (off := 1426) (tgt := 1470) hx hb dL_law_44 (by decide) (by decide) (by rfl) (by decide) ?_
        exact lq_24 hl0 hL C1 hK hZ hAO hb0 hbA hi3 (kk hi3) hG hS hD h6 hY hk hn hl
      · refine lv_tableIn (off := 1494) (tgt := 1538) hx hb dL_law_44 (by decide) (by decide) (by rfl) (by decide) ?_
        exact lq_25 hl0 hL C1 hK hZ hAO hb0 hbA hi3 (kk hi3) hG hS hD h6 hY hk hn hl
      · refine lv_tableIn (off := 1562) (tgt := 1606) hx hb dL_law_44 (by decide) (by decide) (by rfl) (by decide) ?_
        exact lq_26 hl0 hL C1 hK hZ hAO hb0 hbA hi3 (kk hi3) hG hS hD h6 hY hk hn hl
      · refine lv_tableIn (off := 1618) (tgt := 1662) hx hb dL_law_44 (by decide) (by decide) (by rfl) (by decide) ?_
        exact lq_27 hl0 hL C1 hK hZ hAO hb0 hbA hi3 (kk hi3) hG hS hD h6 hY hk hn hl
      · refine lv_tableIn (off := 1674) (tgt := 1718) hx hb dL_law_44 (by decide) (by decide) (by rfl) (by decide) ?_
        exact lq_28 hl0 hL C1 hK hZ hAO hb0 hbA hi3 (kk hi3) hG hS hD h6 hY hk hn hl
      · refine lv_tableIn (off := 1688) (tgt := 1732) hx hb dL_law_44 (by decide) (by decide) (by rfl) (by decide) ?_
        exact lq_29 hl0 hL C1 hK hZ hAO hb0 hbA hi3 (kk hi3) hG hS hD h6 hY hk hn hl
      · refine lv_tableIn (off := 1753) (tgt := 1797) hx hb dL_law_44 (by decide) (by decide) (by rfl) (by decide) ?_
        exact lq_30 hl0 hL C1 hK hZ hAO hb0 hbA hi3 (kk hi3) hG hS hD h6 hY hk hn hl
      · refine lv_tableIn (off := 1819) (tgt := 1863) hx hb dL_law_44 (by decide) (by decide) (by rfl) (by decide) ?_
        exact lq_31 hl0 hL C1 hK hZ hAO hb0 hbA hi3 (kk hi3) hG hS hD h6 hY hk hn hl
      · refine lv_tableIn (off := 1875) (tgt := 1919) hx hb dL_law_44 (by decide) (by decide) (by rfl) (by decide) ?_
        exact lq_32 hl0 hL C1 hK hZ hAO hb0 hbA hi3 (kk hi3) hG hS hD h6 hY hk hn hl
      · refine lv_tableIn (off := 1931) (tgt := 1975) hx hb dL_law_44 (by decide) (by decide) (by rfl) (by decide) ?_
        exact lq_33 hl0 hL C1 hK hZ hAO hb0 hbA hi3 (kk hi3) hG hS hD h6 hY hk hn hl
      · refine lv_tableIn (off := 1987) (tgt := 2031) hx hb dL_law_44 (by decide) (by decide) (by rfl) (by decide) ?_
        exact lq_34 hl0 hL C1 hK hZ hAO hb0 hbA hi3 (kk hi3) hG hS hD h6 hY hk hn hl
      · refine lv_tableIn (off := 2043) (tgt := 2087) hx hb dL_law_44 (by decide) (by decide) (by rfl) (by decide) ?_
        exact lq_35 hl0 hL C1 hK hZ hAO hb0 hbA hi3 (kk hi3) hG hS hD h6 hY hk hn hl
      · refine lv_tableIn (off := 2111) (tgt := 2155) hx hb dL_law_44 (by decide) (by decide) (by rfl) (by decide) ?_
        exact lq_36 hl0 hL C1 hK hZ hAO hb0 hbA hi3 (kk hi3) hG hS hD h6 hY hk hn hl
    · refine lv_tableOut (tgt := 2168) hx hb dL_law_44 (Or.inr ?_) (by decide) ?_
      · rw [nI_toInt (by omega)]
        omega
      · refine zb_iinc (n := 3) (k := 5) (lv' := [(5, .int (nI (i + 3))), (0, .ref bq), (1, .ref (ad 0 0)), (2, .ref (ad 14 0)), (3, .ref (ad 33 0)), (4, .ref (ad 34 0))]) hx hb dL_law_2168 hl rfl (by decide) (by decide) rfl (fun ls hl => ?_)
        refine zb_goto (tgt := 28) hx hb dL_law_2171 (by decide) ?_
        exact kk hi3 _ _ _ _ _ _ _ _ _ _ _ hG hS hD h6 hY (by omega) (by omega) (lv_sub hl [1, 2, 3, 4, 5, 0] rfl)
theorem lw_loop {p : Program} {l : Launch} {e : Env} {s : State} {m : MethodId} {below : List Frame} {meth : Method} {c : Code} {bq b L : Nat} {xs : Nat → Int32} {E : za_E} (hl0 : l.stackTraces = false) (hL : L ≤ 1536) (C0 : lw_At p s m meth c bq L xs) (hK : za_K E s) (hZ : za_Z b s s.heap) (hAO : va_AO RX2 s) (hb0 : b ≤ s.heap.size) (hbe : s.heap.size ≤ b) (hbA : ¬ za_A b bq) : ∀ n i, i ≤ L → L ≤ i + n → zl_at p l e s m below meth c bq b E i
  | 0, i, h1, h2 => lw_head hl0 hL C0 hK hZ hAO hb0 hbe hbA h1 (fun h => absurd h (by omega))
  | n + 1, i, h1, h2 => lw_head hl0 hL C0 hK hZ hAO hb0 hbe hbA h1 (fun h => lw_loop hl0 hL C0 hK hZ hAO hb0 hbe hbA n (i + 3) h (by omega))
