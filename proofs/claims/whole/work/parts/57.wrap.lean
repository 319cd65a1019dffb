set_option maxRecDepth 100000 in
set_option maxHeartbeats 4000000 in
theorem c_L_setBudget (l : Launch) (hl0 : l.stackTraces = false) {E : za_E} {b : Nat} {ad : za_Ad} {S X T Y : za_S} {ow : Int64} {dw : UInt64} (p0 p1 : Int32) (hD : zs_D S X) (h6 : zs_6 S) : Met l yL_setBudget wsL_setBudget ({ frames := 8, cells := 5, slots := 40, locals := 139 } : Room) (za_PcA E b (ad, S, X, T, Y, ow, dw) [.ref (ad 0 0), .int p0, .int p1, .ref (ad 33 0)]) (za_Qi E b (fun r u => zw_post ad S T Y dw (zo_set S (zs_ix p0) (zs_ix p1) 9999) (za_N S 1 (zs_ix p0) 0 (zs_ix p1)) ((nI (S.1 1 (zs_ix p0) 0)).toInt64) r u)) (5) (40) (za_A b) := by
  refine zw_met (ccm := cL_setBudget) (maxL := 5) (ret := (some .int)) (ws' := _) (own := RL) (lv := [(0, .ref (ad 0 0)), (1, .int p0), (2, .int p1), (3, .ref (ad 33 0))]) (by decide) rfl rfl rfl (by simp [lg_sl, Value.category]) ?_
  intro pg en s m below meth c hx hb hml hr hown hts hlocks htb hK hZ hAO hb0 hG hS ls hl
  skip
  refine lv_aload_n hx hb dL_setBudget_0 rfl (lv_at hl 3 rfl) ?_
  refine zb_iconst (n := 0) hx hb dL_setBudget_1 (by decide) ?_
  refine lv_aload_n hx hb dL_setBudget_2 rfl (lv_at hl 0 rfl) ?_
  refine lv_iload_n hx hb dL_setBudget_3 rfl (lv_at hl 1 rfl) ?_
  refine lv_iload_n hx hb dL_setBudget_4 rfl (lv_at hl 2 rfl) ?_
  refine zc_xVi (As := [.int p0, .int p1]) (rest := [.int (nI 0), .ref (ad 33 0)]) hK hZ hb0 hG hS hx hb hml hown hts (c_X6_setBudget l hl0 p0 p1 hD.C) (cwV 2 hts gL_setBudget_X6_setBudget rfl rfl rfl (by decide +kernel) ⟨Nat.le_of_ble_eq_true rfl, Nat.le_of_ble_eq_true rfl⟩) (za_recv (q := (RX6, TX6, 11)) hK hG 0 0 ⟨by omega, rfl⟩ rfl rfl rfl) rfl hl rfl (Nat.le_of_ble_eq_true rfl) dL_setBudget_5 ⟨Nat.le_of_ble_eq_true rfl, Nat.le_of_ble_eq_true rfl⟩ (fun En ce q9 u_5 H locs hp hG hS g1 g2 g3 => ?_) (fun r_5 u_5 H locs hp hG hS => ?_)
  · rcases hp with ⟨rfl, hco, rfl⟩ | ⟨rfl, hco, rfl⟩
    · refine vx_catch (E := "java/util/NoSuchElementException") (name := "java/util/NoSuchElementException") hown [] ⟨0, 10, 13, 21⟩ [⟨0, 10, 17, 13⟩] (by rw [htb]; rfl) (fun _ h => by cases h) rfl (by decide) (hts (.classLink RL 21 "java/util/NoSuchElementException") (by decide +kernel)) (va_Nw.use rfl (hZ.2.2.2.2.2.1 "java/util/NoSuchElementException" (by simp [za_exs]))) g1 g2 g3 ?_
      refine lv_astore (lv' := [(4, .ref q9), (0, .ref (ad 0 0)), (1, .int p0), (2, .int p1), (3, .ref (ad 33 0))]) hx hb dL_setBudget_13 hl (by decide) rfl (fun ls hl => ?_)
      refine zb_iconst (n := 1) hx hb dL_setBudget_15 (by decide) ?_
      exact zm_iret hx hb hr hlocks hG hS (by omega) (by omega) (zw_no hco rfl hD h6) dL_setBudget_16
    · refine vx_catch (E := "java/lang/IllegalArgumentException") (name := "java/lang/IllegalArgumentException") hown [⟨0, 10, 13, 21⟩] ⟨0, 10, 17, 13⟩ [] (by rw [htb]; rfl) (List.forall_mem_cons.mpr ⟨Or.inr ⟨by decide, "java/util/NoSuchElementException", hts (.classLink RL 21 "java/util/NoSuchElementException") (by decide +kernel), hZ.2.2.2.2.2.2.1 "java/lang/IllegalArgumentException" (by simp [za_exs]) "java/util/NoSuchElementException" (by simp [za_exs]) (by decide)⟩, (fun _ h => by cases h)⟩) rfl (by decide) (hts (.classLink RL 13 "java/lang/IllegalArgumentException") (by decide +kernel)) (va_Nw.use rfl (hZ.2.2.2.2.2.1 "java/lang/IllegalArgumentException" (by simp [za_exs]))) g1 g2 g3 ?_
      refine lv_astore (lv' := [(4, .ref q9), (0, .ref (ad 0 0)), (1, .int p0), (2, .int p1), (3, .ref (ad 33 0))]) hx hb dL_setBudget_17 hl (by decide) rfl (fun ls hl => ?_)
      refine zb_iconst (n := 2) hx hb dL_setBudget_19 (by decide) ?_
      exact zm_iret hx hb hr hlocks hG hS (by omega) (by omega) (zw_no hco rfl hD h6) dL_setBudget_20
  · obtain ⟨hco, hre, X2, rfl, q1, q2, q3⟩ := hp
    refine lv_i2l hx hb dL_setBudget_8 rfl ?_
    refine zst_OL hx hb hK hG hS dL_setBudget_9 (fun H locs hG hS => ?_)
    refine zb_goto (tgt := 21) hx hb dL_setBudget_10 (by decide) ?_
    refine zb_iconst (n := 0) hx hb dL_setBudget_21 (by decide) ?_
    exact zm_iret hx hb hr hlocks hG hS (by omega) (by omega) (zw_ok hco rfl (by rw [hre]) (zk_sm.rf _) (zw_set hD (zq_set hco).1 (Or.inl ⟨rfl, (zq_set hco).2⟩) q1 q2 q3) (zs_6_N h6 (by decide))) dL_setBudget_22

set_option maxRecDepth 100000 in
set_option maxHeartbeats 4000000 in
theorem c_L_setSends (l : Launch) (hl0 : l.stackTraces = false) {E : za_E} {b : Nat} {ad : za_Ad} {S X T Y : za_S} {ow : Int64} {dw : UInt64} (p0 p1 : Int32) (hD : zs_D S X) (h6 : zs_6 S) : Met l yL_setSends wsL_setSends ({ frames := 8, cells := 5, slots := 40, locals := 139 } : Room) (za_PcA E b (ad, S, X, T, Y, ow, dw) [.ref (ad 0 0), .int p0, .int p1, .ref (ad 33 0)]) (za_Qi E b (fun r u => zw_post ad S T Y dw (zo_set S (zs_ix p0) (zs_ix p1) 3) (za_N S 2 (zs_ix p0) 0 (zs_ix p1)) ((nI (S.1 2 (zs_ix p0) 0)).toInt64) r u)) (5) (40) (za_A b) := by
  refine zw_met (ccm := cL_setSends) (maxL := 5) (ret := (some .int)) (ws' := _) (own := RL) (lv := [(0, .ref (ad 0 0)), (1, .int p0), (2, .int p1), (3, .ref (ad 33 0))]) (by decide) rfl rfl rfl (by simp [lg_sl, Value.category]) ?_
  intro pg en s m below meth c hx hb hml hr hown hts hlocks htb hK hZ hAO hb0 hG hS ls hl
  skip
  refine lv_aload_n hx hb dL_setSends_0 rfl (lv_at hl 3 rfl) ?_
  refine zb_iconst (n := 0) hx hb dL_setSends_1 (by decide) ?_
  refine lv_aload_n hx hb dL_setSends_2 rfl (lv_at hl 0 rfl) ?_
  refine lv_iload_n hx hb dL_setSends_3 rfl (lv_at hl 1 rfl) ?_
  refine lv_iload_n hx hb dL_setSends_4 rfl (lv_at hl 2 rfl) ?_
  refine zc_xVi (As := [.int p0, .int p1]) (rest := [.int (nI 0), .ref (ad 33 0)]) hK hZ hb0 hG hS hx hb hml hown hts (c_X6_setSends l hl0 p0 p1 hD.C) (cwV 2 hts gL_setSends_X6_setSends rfl rfl rfl (by decide +kernel) ⟨Nat.le_of_ble_eq_true rfl, Nat.le_of_ble_eq_true rfl⟩) (za_recv (q := (RX6, TX6, 11)) hK hG 0 0 ⟨by omega, rfl⟩ rfl rfl rfl) rfl hl rfl (Nat.le_of_ble_eq_true rfl) dL_setSends_5 ⟨Nat.le_of_ble_eq_true rfl, Nat.le_of_ble_eq_true rfl⟩ (fun En ce q9 u_5 H locs hp hG hS g1 g2 g3 => ?_) (fun r_5 u_5 H locs hp hG hS => ?_)
  · rcases hp with ⟨rfl, hco, rfl⟩ | ⟨rfl, hco, rfl⟩
    · refine vx_catch (E := "java/util/NoSuchElementException") (name := "java/util/NoSuchElementException") hown [] ⟨0, 10, 13, 21⟩ [⟨0, 10, 17, 13⟩] (by rw [htb]; rfl) (fun _ h => by cases h) rfl (by decide) (hts (.classLink RL 21 "java/util/NoSuchElementException") (by decide +kernel)) (va_Nw.use rfl (hZ.2.2.2.2.2.1 "java/util/NoSuchElementException" (by simp [za_exs]))) g1 g2 g3 ?_
      refine lv_astore (lv' := [(4, .ref q9), (0, .ref (ad 0 0)), (1, .int p0), (2, .int p1), (3, .ref (ad 33 0))]) hx hb dL_setSends_13 hl (by decide) rfl (fun ls hl => ?_)
      refine zb_iconst (n := 1) hx hb dL_setSends_15 (by decide) ?_
      exact zm_iret hx hb hr hlocks hG hS (by omega) (by omega) (zw_no hco rfl hD h6) dL_setSends_16
    · refine vx_catch (E := "java/lang/IllegalArgumentException") (name := "java/lang/IllegalArgumentException") hown [⟨0, 10, 13, 21⟩] ⟨0, 10, 17, 13⟩ [] (by rw [htb]; rfl) (List.forall_mem_cons.mpr ⟨Or.inr ⟨by decide, "java/util/NoSuchElementException", hts (.classLink RL 21 "java/util/NoSuchElementException") (by decide +kernel), hZ.2.2.2.2.2.2.1 "java/lang/IllegalArgumentException" (by simp [za_exs]) "java/util/NoSuchElementException" (by simp [za_exs]) (by decide)⟩, (fun _ h => by cases h)⟩) rfl (by decide) (hts (.classLink RL 13 "java/lang/IllegalArgumentException") (by decide +kernel)) (va_Nw.use rfl (hZ.2.2.2.2.2.1 "java/lang/IllegalArgumentException" (by simp [za_exs]))) g1 g2 g3 ?_
      refine lv_astore (lv' := [(4, .ref q9), (0, .ref (ad 0 0)), (1, .int p0), (2, .int p1), (3, .ref (ad 33 0))]) hx hb dL_setSends_17 hl (by decide) rfl (fun ls hl => ?_)
      refine zb_iconst (n := 2) hx hb dL_setSends_19 (by decide) ?_
      exact zm_iret hx hb hr hlocks hG hS (by omega) (by omega) (zw_no hco rfl hD h6) dL_setSends_20
  · obtain ⟨hco, hre, X2, rfl, q1, q2, q3⟩ := hp
    refine lv_i2l hx hb dL_setSends_8 rfl ?_
    refine zst_OL hx hb hK hG hS dL_setSends_9 (fun H locs hG hS => ?_)
    refine zb_goto (tgt := 21) hx hb dL_setSends_10 (by decide) ?_
    refine zb_iconst (n := 0) hx hb dL_setSends_21 (by decide) ?_
    exact zm_iret hx hb hr hlocks hG hS (by omega) (by omega) (zw_ok hco rfl (by rw [hre]) (zk_sm.rf _) (zw_set hD (zq_set hco).1 (Or.inr (Or.inl ⟨rfl, (zq_set hco).2⟩)) q1 q2 q3) (zs_6_N h6 (by decide))) dL_setSends_22

set_option maxRecDepth 100000 in
set_option maxHeartbeats 4000000 in
theorem c_L_setLoud (l : Launch) (hl0 : l.stackTraces = false) {E : za_E} {b : Nat} {ad : za_Ad} {S X T Y : za_S} {ow : Int64} {dw : UInt64} (p0 p1 : Int32) (hD : zs_D S X) (h6 : zs_6 S) : Met l yL_setLoud wsL_setLoud ({ frames := 8, cells := 5, slots := 40, locals := 128 } : Room) (za_PcA E b (ad, S, X, T, Y, ow, dw) [.ref (ad 0 0), .int p0, .int p1, .ref (ad 33 0)]) (za_Qi E b (fun r u => zw_post ad S T Y dw (zo_set S (zs_ix p0) (zs_ix p1) 99) (za_N S 3 (zs_ix p0) 0 (zs_ix p1)) ((nI (S.1 3 (zs_ix p0) 0)).toInt64) r u)) (5) (40) (za_A b) := by
  refine zw_met (ccm := cL_setLoud) (maxL := 5) (ret := (some .int)) (ws' := _) (own := RL) (lv := [(0, .ref (ad 0 0)), (1, .int p0), (2, .int p1), (3, .ref (ad 33 0))]) (by decide) rfl rfl rfl (by simp [lg_sl, Value.category]) ?_
  intro pg en s m below meth c hx hb hml hr hown hts hlocks htb hK hZ hAO hb0 hG hS ls hl
  skip
  refine lv_aload_n hx hb dL_setLoud_0 rfl (lv_at hl 3 rfl) ?_
  refine zb_iconst (n := 0) hx hb dL_setLoud_1 (by decide) ?_
  refine lv_aload_n hx hb dL_setLoud_2 rfl (lv_at hl 0 rfl) ?_
  refine lv_iload_n hx hb dL_setLoud_3 rfl (lv_at hl 1 rfl) ?_
  refine lv_iload_n hx hb dL_setLoud_4 rfl (lv_at hl 2 rfl) ?_
  refine zc_xVi (As := [.int p0, .int p1]) (rest := [.int (nI 0), .ref (ad 33 0)]) hK hZ hb0 hG hS hx hb hml hown hts (c_X6_setLoud l hl0 p0 p1 hD.C) (cwV 2 hts gL_setLoud_X6_setLoud rfl rfl rfl (by decide +kernel) ⟨Nat.le_of_ble_eq_true rfl, Nat.le_of_ble_eq_true rfl⟩) (za_recv (q := (RX6, TX6, 11)) hK hG 0 0 ⟨by omega, rfl⟩ rfl rfl rfl) rfl hl rfl (Nat.le_of_ble_eq_true rfl) dL_setLoud_5 ⟨Nat.le_of_ble_eq_true rfl, Nat.le_of_ble_eq_true rfl⟩ (fun En ce q9 u_5 H locs hp hG hS g1 g2 g3 => ?_) (fun r_5 u_5 H locs hp hG hS => ?_)
  · rcases hp with ⟨rfl, hco, rfl⟩ | ⟨rfl, hco, rfl⟩
    · refine vx_catch (E := "java/util/NoSuchElementException") (name := "java/util/NoSuchElementException") hown [] ⟨0, 10, 13, 21⟩ [⟨0, 10, 17, 13⟩] (by rw [htb]; rfl) (fun _ h => by cases h) rfl (by decide) (hts (.classLink RL 21 "java/util/NoSuchElementException") (by decide +kernel)) (va_Nw.use rfl (hZ.2.2.2.2.2.1 "java/util/NoSuchElementException" (by simp [za_exs]))) g1 g2 g3 ?_
      refine lv_astore (lv' := [(4, .ref q9), (0, .ref (ad 0 0)), (1, .int p0), (2, .int p1), (3, .ref (ad 33 0))]) hx hb dL_setLoud_13 hl (by decide) rfl (fun ls hl => ?_)
      refine zb_iconst (n := 1) hx hb dL_setLoud_15 (by decide) ?_
      exact zm_iret hx hb hr hlocks hG hS (by omega) (by omega) (zw_no hco rfl hD h6) dL_setLoud_16
    · refine vx_catch (E := "java/lang/IllegalArgumentException") (name := "java/lang/IllegalArgumentException") hown [⟨0, 10, 13, 21⟩] ⟨0, 10, 17, 13⟩ [] (by rw [htb]; rfl) (List.forall_mem_cons.mpr ⟨Or.inr ⟨by decide, "java/util/NoSuchElementException", hts (.classLink RL 21 "java/util/NoSuchElementException") (by decide +kernel), hZ.2.2.2.2.2.2.1 "java/lang/IllegalArgumentException" (by simp [za_exs]) "java/util/NoSuchElementException" (by simp [za_exs]) (by decide)⟩, (fun _ h => by cases h)⟩) rfl (by decide) (hts (.classLink RL 13 "java/lang/IllegalArgumentException") (by decide +kernel)) (va_Nw.use rfl (hZ.2.2.2.2.2.1 "java/lang/IllegalArgumentException" (by simp [za_exs]))) g1 g2 g3 ?_
      refine lv_astore (lv' := [(4, .ref q9), (0, .ref (ad 0 0)), (1, .int p0), (2, .int p1), (3, .ref (ad 33 0))]) hx hb dL_setLoud_17 hl (by decide) rfl (fun ls hl => ?_)
      refine zb_iconst (n := 2) hx hb dL_setLoud_19 (by decide) ?_
      exact zm_iret hx hb hr hlocks hG hS (by omega) (by omega) (zw_no hco rfl hD h6) dL_setLoud_20
  · obtain ⟨hco, hre, rfl⟩ := hp
    refine lv_i2l hx hb dL_setLoud_8 rfl ?_
    refine zst_OL hx hb hK hG hS dL_setLoud_9 (fun H locs hG hS => ?_)
    refine zb_goto (tgt := 21) hx hb dL_setLoud_10 (by decide) ?_
    refine zb_iconst (n := 0) hx hb dL_setLoud_21 (by decide) ?_
    exact zm_iret hx hb hr hlocks hG hS (by omega) (by omega) (zw_ok hco rfl (by rw [hre]) (zk_sm.rf _) (zw_loud hD (zq_set hco).1 (zq_set hco).2) (zs_6_N h6 (by decide))) dL_setLoud_22

set_option maxRecDepth 100000 in
set_option maxHeartbeats 4000000 in
theorem c_L_addRoom (l : Launch) (hl0 : l.stackTraces = false) {E : za_E} {b : Nat} {ad : za_Ad} {S X T Y : za_S} {ow : Int64} {dw : UInt64}  (hD : zs_D S X) (h6 : zs_6 S) : Met l yL_addRoom wsL_addRoom ({ frames := 7, cells := 5, slots := 40, locals := 102 } : Room) (za_PcA E b (ad, S, X, T, Y, ow, dw) [.ref (ad 0 0), .ref (ad 33 0)]) (za_Qi E b (fun r u => zw_post ad S T Y dw (zo_ar S) (zs_nr S) ((nI (S.1 0 1 0)).toInt64) r u)) (5) (40) (za_A b) := by
  refine zw_met (ccm := cL_addRoom) (maxL := 3) (ret := (some .int)) (ws' := _) (own := RL) (lv := [(0, .ref (ad 0 0)), (1, .ref (ad 33 0))]) (by decide) rfl rfl rfl (by simp [lg_sl, Value.category]) ?_
  intro pg en s m below meth c hx hb hml hr hown hts hlocks htb hK hZ hAO hb0 hG hS ls hl
  skip
  refine lv_aload_n hx hb dL_addRoom_0 rfl (lv_at hl 1 rfl) ?_
  refine zb_iconst (n := 0) hx hb dL_addRoom_1 (by decide) ?_
  refine lv_aload_n hx hb dL_addRoom_2 rfl (lv_at hl 0 rfl) ?_
  refine zc_xAVi (As := []) (rest := [.int (nI 0), .ref (ad 33 0)]) hK hZ hAO hb0 hG hS hx hb hml hown hts (c_X6_addRoom l hl0 hD) (cwV 0 hts gL_addRoom_X6_addRoom rfl rfl rfl (by decide +kernel) ⟨Nat.le_of_ble_eq_true rfl, Nat.le_of_ble_eq_true rfl⟩) (za_recv (q := (RX6, TX6, 11)) hK hG 0 0 ⟨by omega, rfl⟩ rfl rfl rfl) rfl hl rfl (Nat.le_of_ble_eq_true rfl) dL_addRoom_3 ⟨Nat.le_of_ble_eq_true rfl, Nat.le_of_ble_eq_true rfl⟩ (fun En ce q9 u_3 H locs hp hG hS g1 g2 g3 => ?_) (fun r_3 u_3 H locs hp hG hS => ?_)
  · obtain ⟨rfl, hco, rfl⟩ := hp
    refine vx_catch (E := "java/lang/IllegalStateException") (name := "java/lang/IllegalStateException") hown [] ⟨0, 8, 11, 15⟩ [] (by rw [htb]; rfl) (fun _ h => by cases h) rfl (by decide) (hts (.classLink RL 15 "java/lang/IllegalStateException") (by decide +kernel)) (va_Nw.use rfl (hZ.2.2.2.2.2.1 "java/lang/IllegalStateException" (by simp [za_exs]))) g1 g2 g3 ?_
    refine lv_astore_n (lv' := [(2, .ref q9), (0, .ref (ad 0 0)), (1, .ref (ad 33 0))]) hx hb dL_addRoom_11 rfl hl (by decide) rfl (fun ls hl => ?_)
    refine zb_iconst (n := 1) hx hb dL_addRoom_12 (by decide) ?_
    exact zm_iret hx hb hr hlocks hG hS (by omega) (by omega) (zw_no hco rfl hD h6) dL_addRoom_13
  · obtain ⟨hco, hre, ad2, X2, rfl, hD2, hsm⟩ := hp
    rw [← hsm 0 (by omega), ← hsm 33 (by omega)] at hl
    refine W.eq (g2 := F0 m 6 ls [.int r_3, .int (nI 0), .ref (ad2 33 0)]) (by rw [hsm 33 (by omega)]) ?_
    refine lv_i2l hx hb dL_addRoom_6 rfl ?_
    refine zst_OL hx hb hK hG hS dL_addRoom_7 (fun H locs hG hS => ?_)
    refine zb_goto (tgt := 14) hx hb dL_addRoom_8 (by decide) ?_
    refine zb_iconst (n := 0) hx hb dL_addRoom_14 (by decide) ?_
    exact zm_iret hx hb hr hlocks hG hS (by omega) (by omega) (zw_ok hco rfl (by rw [hre]) hsm (hD2) (zs_nr_6 h6)) dL_addRoom_15

set_option maxRecDepth 100000 in
set_option maxHeartbeats 4000000 in
theorem c_L_addPerson (l : Launch) (hl0 : l.stackTraces = false) {E : za_E} {b : Nat} {ad : za_Ad} {S X T Y : za_S} {ow : Int64} {dw : UInt64} (p0 : Int32) (hD : zs_D S X) (h6 : zs_6 S) : Met l yL_addPerson wsL_addPerson ({ frames := 8, cells := 5, slots := 40, locals := 125 } : Room) (za_PcA E b (ad, S, X, T, Y, ow, dw) [.ref (ad 0 0), .int p0, .ref (ad 33 0)]) (za_Qi E b (fun r u => zw_post ad S T Y dw (zo_ap S (zs_ix p0)) (zs_np S (zs_ix p0)) ((nI (S.1 0 0 0)).toInt64) r u)) (5) (40) (za_A b) := by
  refine zw_met (ccm := cL_addPerson) (maxL := 4) (ret := (some .int)) (ws' := _) (own := RL) (lv := [(0, .ref (ad 0 0)), (1, .int p0), (2, .ref (ad 33 0))]) (by decide) rfl rfl rfl (by simp [lg_sl, Value.category]) ?_
  intro pg en s m below meth c hx hb hml hr hown hts hlocks htb hK hZ hAO hb0 hG hS ls hl
  skip
  refine lv_aload_n hx hb dL_addPerson_0 rfl (lv_at hl 2 rfl) ?_
  refine zb_iconst (n := 0) hx hb dL_addPerson_1 (by decide) ?_
  refine lv_aload_n hx hb dL_addPerson_2 rfl (lv_at hl 0 rfl) ?_
  refine lv_iload_n hx hb dL_addPerson_3 rfl (lv_at hl 1 rfl) ?_
  refine zc_xVi (As := [.int p0]) (rest := [.int (nI 0), .ref (ad 33 0)]) hK hZ hb0 hG hS hx hb hml hown hts (c_X6_addPerson l hl0 p0 hD) (cwV 1 hts gL_addPerson_X6_addPerson rfl rfl rfl (by decide +kernel) ⟨Nat.le_of_ble_eq_true rfl, Nat.le_of_ble_eq_true rfl⟩) (za_recv (q := (RX6, TX6, 11)) hK hG 0 0 ⟨by omega, rfl⟩ rfl rfl rfl) rfl hl rfl (Nat.le_of_ble_eq_true rfl) dL_addPerson_4 ⟨Nat.le_of_ble_eq_true rfl, Nat.le_of_ble_eq_true rfl⟩ (fun En ce q9 u_4 H locs hp hG hS g1 g2 g3 => ?_) (fun r_4 u_4 H locs hp hG hS => ?_)
  · rcases hp with ⟨rfl, hco, rfl⟩ | ⟨rfl, hco, rfl⟩
    · refine vx_catch (E := "java/lang/IllegalArgumentException") (name := "java/lang/IllegalArgumentException") hown [] ⟨0, 9, 12, 13⟩ [⟨0, 9, 15, 15⟩] (by rw [htb]; rfl) (fun _ h => by cases h) rfl (by decide) (hts (.classLink RL 13 "java/lang/IllegalArgumentException") (by decide +kernel)) (va_Nw.use rfl (hZ.2.2.2.2.2.1 "java/lang/IllegalArgumentException" (by simp [za_exs]))) g1 g2 g3 ?_
      refine lv_astore_n (lv' := [(3, .ref q9), (0, .ref (ad 0 0)), (1, .int p0), (2, .ref (ad 33 0))]) hx hb dL_addPerson_12 rfl hl (by decide) rfl (fun ls hl => ?_)
      refine zb_iconst (n := 1) hx hb dL_addPerson_13 (by decide) ?_
      exact zm_iret hx hb hr hlocks hG hS (by omega) (by omega) (zw_no hco rfl hD h6) dL_addPerson_14
    · refine vx_catch (E := "java/lang/IllegalStateException") (name := "java/lang/IllegalStateException") hown [⟨0, 9, 12, 13⟩] ⟨0, 9, 15, 15⟩ [] (by rw [htb]; rfl) (List.forall_mem_cons.mpr ⟨Or.inr ⟨by decide, "java/lang/IllegalArgumentException", hts (.classLink RL 13 "java/lang/IllegalArgumentException") (by decide +kernel), hZ.2.2.2.2.2.2.1 "java/lang/IllegalStateException" (by simp [za_exs]) "java/lang/IllegalArgumentException" (by simp [za_exs]) (by decide)⟩, (fun _ h => by cases h)⟩) rfl (by decide) (hts (.classLink RL 15 "java/lang/IllegalStateException") (by decide +kernel)) (va_Nw.use rfl (hZ.2.2.2.2.2.1 "java/lang/IllegalStateException" (by simp [za_exs]))) g1 g2 g3 ?_
      refine lv_astore_n (lv' := [(3, .ref q9), (0, .ref (ad 0 0)), (1, .int p0), (2, .ref (ad 33 0))]) hx hb dL_addPerson_15 rfl hl (by decide) rfl (fun ls hl => ?_)
      refine zb_iconst (n := 2) hx hb dL_addPerson_16 (by decide) ?_
      exact zm_iret hx hb hr hlocks hG hS (by omega) (by omega) (zw_no hco rfl hD h6) dL_addPerson_17
  · obtain ⟨hco, hre, ad2, X2, rfl, hD2, hsm⟩ := hp
    rw [← hsm 0 (by omega), ← hsm 33 (by omega)] at hl
    refine W.eq (g2 := F0 m 7 ls [.int r_4, .int (nI 0), .ref (ad2 33 0)]) (by rw [hsm 33 (by omega)]) ?_
    refine lv_i2l hx hb dL_addPerson_7 rfl ?_
    refine zst_OL hx hb hK hG hS dL_addPerson_8 (fun H locs hG hS => ?_)
    refine zb_goto (tgt := 18) hx hb dL_addPerson_9 (by decide) ?_
    refine zb_iconst (n := 0) hx hb dL_addPerson_18 (by decide) ?_
    exact zm_iret hx hb hr hlocks hG hS (by omega) (by omega) (zw_ok hco rfl (by rw [hre]) hsm (hD2) (zs_np_6 h6 _)) dL_addPerson_19

set_option maxRecDepth 100000 in
set_option maxHeartbeats 4000000 in
theorem c_L_enter (l : Launch) (hl0 : l.stackTraces = false) {E : za_E} {b : Nat} {ad : za_Ad} {S X T Y : za_S} {ow : Int64} {dw : UInt64} (p0 p1 : Int32) (hD : zs_D S X) (h6 : zs_6 S) : Met l yL_enter wsL_enter ({ frames := 8, cells := 5, slots := 40, locals := 163 } : Room) (za_PcA E b (ad, S, X, T, Y, ow, dw) [.ref (ad 0 0), .int p0, .int p1, .ref (ad 33 0)]) (za_Qi E b (fun r u => zw_post ad S T Y dw (zo_en S (zs_ix p0) (zs_ix p1)) (zs_st (zs_mv S (zs_ix p0) (some (zs_ix p1))) 10) ((nI ((zs_st (zs_mv S (zs_ix p0) (some (zs_ix p1))) 10).1 5 (zs_ix p1) 0)).toInt64) r u)) (5) (40) (za_A b) := by
  refine zw_met (ccm := cL_enter) (maxL := 5) (ret := (some .int)) (ws' := _) (own := RL) (lv := [(0, .ref (ad 0 0)), (1, .int p0), (2, .int p1), (3, .ref (ad 33 0))]) (by decide) rfl rfl rfl (by simp [lg_sl, Value.category]) ?_
  intro pg en s m below meth c hx hb hml hr hown hts hlocks htb hK hZ hAO hb0 hG hS ls hl
  skip
  refine lv_aload_n hx hb dL_enter_0 rfl (lv_at hl 3 rfl) ?_
  refine zb_iconst (n := 0) hx hb dL_enter_1 (by decide) ?_
  refine lv_aload_n hx hb dL_enter_2 rfl (lv_at hl 0 rfl) ?_
  refine lv_iload_n hx hb dL_enter_3 rfl (lv_at hl 1 rfl) ?_
  refine lv_iload_n hx hb dL_enter_4 rfl (lv_at hl 2 rfl) ?_
  refine zc_xVi (As := [.int p0, .int p1]) (rest := [.int (nI 0), .ref (ad 33 0)]) hK hZ hb0 hG hS hx hb hml hown hts (c_X6_enter l hl0 p0 p1 hD.C) (cwV 2 hts gL_enter_X6_enter rfl rfl rfl (by decide +kernel) ⟨Nat.le_of_ble_eq_true rfl, Nat.le_of_ble_eq_true rfl⟩) (za_recv (q := (RX6, TX6, 11)) hK hG 0 0 ⟨by omega, rfl⟩ rfl rfl rfl) rfl hl rfl (Nat.le_of_ble_eq_true rfl) dL_enter_5 ⟨Nat.le_of_ble_eq_true rfl, Nat.le_of_ble_eq_true rfl⟩ (fun En ce q9 u_5 H locs hp hG hS g1 g2 g3 => ?_) (fun r_5 u_5 H locs hp hG hS => ?_)
  · rcases hp with ⟨rfl, hco, rfl⟩ | ⟨rfl, hco, rfl⟩ | ⟨rfl, hco, rfl⟩
    · refine vx_catch (E := "java/util/NoSuchElementException") (name := "java/util/NoSuchElementException") hown [] ⟨0, 10, 13, 21⟩ [⟨0, 10, 17, 36⟩, ⟨0, 10, 21, 15⟩] (by rw [htb]; rfl) (fun _ h => by cases h) rfl (by decide) (hts (.classLink RL 21 "java/util/NoSuchElementException") (by decide +kernel)) (va_Nw.use rfl (hZ.2.2.2.2.2.1 "java/util/NoSuchElementException" (by simp [za_exs]))) g1 g2 g3 ?_
      refine lv_astore (lv' := [(4, .ref q9), (0, .ref (ad 0 0)), (1, .int p0), (2, .int p1), (3, .ref (ad 33 0))]) hx hb dL_enter_13 hl (by decide) rfl (fun ls hl => ?_)
      refine zb_iconst (n := 1) hx hb dL_enter_15 (by decide) ?_
      exact zm_iret hx hb hr hlocks hG hS (by omega) (by omega) (zw_no hco rfl hD h6) dL_enter_16
    · refine vx_catch (E := "java/lang/IndexOutOfBoundsException") (name := "java/lang/IndexOutOfBoundsException") hown [⟨0, 10, 13, 21⟩] ⟨0, 10, 17, 36⟩ [⟨0, 10, 21, 15⟩] (by rw [htb]; rfl) (List.forall_mem_cons.mpr ⟨Or.inr ⟨by decide, "java/util/NoSuchElementException", hts (.classLink RL 21 "java/util/NoSuchElementException") (by decide +kernel), hZ.2.2.2.2.2.2.1 "java/lang/IndexOutOfBoundsException" (by simp [za_exs]) "java/util/NoSuchElementException" (by simp [za_exs]) (by decide)⟩, (fun _ h => by cases h)⟩) rfl (by decide) (hts (.classLink RL 36 "java/lang/IndexOutOfBoundsException") (by decide +kernel)) (va_Nw.use rfl (hZ.2.2.2.2.2.1 "java/lang/IndexOutOfBoundsException" (by simp [za_exs]))) g1 g2 g3 ?_
      refine lv_astore (lv' := [(4, .ref q9), (0, .ref (ad 0 0)), (1, .int p0), (2, .int p1), (3, .ref (ad 33 0))]) hx hb dL_enter_17 hl (by decide) rfl (fun ls hl => ?_)
      refine zb_iconst (n := 2) hx hb dL_enter_19 (by decide) ?_
      exact zm_iret hx hb hr hlocks hG hS (by omega) (by omega) (zw_no hco rfl hD h6) dL_enter_20
    · refine vx_catch (E := "java/lang/IllegalStateException") (name := "java/lang/IllegalStateException") hown [⟨0, 10, 13, 21⟩, ⟨0, 10, 17, 36⟩] ⟨0, 10, 21, 15⟩ [] (by rw [htb]; rfl) (List.forall_mem_cons.mpr ⟨Or.inr ⟨by decide, "java/util/NoSuchElementException", hts (.classLink RL 21 "java/util/NoSuchElementException") (by decide +kernel), hZ.2.2.2.2.2.2.1 "java/lang/IllegalStateException" (by simp [za_exs]) "java/util/NoSuchElementException" (by simp [za_exs]) (by decide)⟩, (List.forall_mem_cons.mpr ⟨Or.inr ⟨by decide, "java/lang/IndexOutOfBoundsException", hts (.classLink RL 36 "java/lang/IndexOutOfBoundsException") (by decide +kernel), hZ.2.2.2.2.2.2.1 "java/lang/IllegalStateException" (by simp [za_exs]) "java/lang/IndexOutOfBoundsException" (by simp [za_exs]) (by decide)⟩, (fun _ h => by cases h)⟩)⟩) rfl (by decide) (hts (.classLink RL 15 "java/lang/IllegalStateException") (by decide +kernel)) (va_Nw.use rfl (hZ.2.2.2.2.2.1 "java/lang/IllegalStateException" (by simp [za_exs]))) g1 g2 g3 ?_
      refine lv_astore (lv' := [(4, .ref q9), (0, .ref (ad 0 0)), (1, .int p0), (2, .int p1), (3, .ref (ad 33 0))]) hx hb dL_enter_21 hl (by decide) rfl (fun ls hl => ?_)
      refine zb_iconst (n := 3) hx hb dL_enter_23 (by decide) ?_
      exact zm_iret hx hb hr hlocks hG hS (by omega) (by omega) (zw_no hco rfl hD h6) dL_enter_24
  · obtain ⟨hco, hre, X2, rfl, q1, q2, q3⟩ := hp
    refine lv_i2l hx hb dL_enter_8 rfl ?_
    refine zst_OL hx hb hK hG hS dL_enter_9 (fun H locs hG hS => ?_)
    refine zb_goto (tgt := 25) hx hb dL_enter_10 (by decide) ?_
    refine zb_iconst (n := 0) hx hb dL_enter_25 (by decide) ?_
    exact zm_iret hx hb hr hlocks hG hS (by omega) (by omega) (zw_ok hco rfl (by rw [hre]) (zk_sm.rf _) (zw_mv hD (zq_en hco).1 (by rintro _ ⟨⟩; exact (zq_en hco).2.1) (zq_en hco).2.2 q1 q2 q3) (fun a => by rw [zs_st_1]; exact zs_mv_6 h6 _ _ a)) dL_enter_26

set_option maxRecDepth 100000 in
set_option maxHeartbeats 4000000 in
theorem c_L_leave (l : Launch) (hl0 : l.stackTraces = false) {E : za_E} {b : Nat} {ad : za_Ad} {S X T Y : za_S} {ow : Int64} {dw : UInt64} (p0 : Int32) (hD : zs_D S X) (h6 : zs_6 S) : Met l yL_leave wsL_leave ({ frames := 8, cells := 5, slots := 40, locals := 162 } : Room) (za_PcA E b (ad, S, X, T, Y, ow, dw) [.ref (ad 0 0), .int p0, .ref (ad 33 0)]) (za_Qi E b (fun r u => zw_post ad S T Y dw (zo_po S (zs_ix p0) 0) (zs_st (zs_mv S (zs_ix p0) none) 10) ((nI ((S.2 0 (zs_ix p0) 0).getD 0)).toInt64) r u)) (5) (40) (za_A b) := by
  refine zw_met (ccm := cL_leave) (maxL := 4) (ret := (some .int)) (ws' := _) (own := RL) (lv := [(0, .ref (ad 0 0)), (1, .int p0), (2, .ref (ad 33 0))]) (by decide) rfl rfl rfl (by simp [lg_sl, Value.category]) ?_
  intro pg en s m below meth c hx hb hml hr hown hts hlocks htb hK hZ hAO hb0 hG hS ls hl
  skip
  refine lv_aload_n hx hb dL_leave_0 rfl (lv_at hl 2 rfl) ?_
  refine zb_iconst (n := 0) hx hb dL_leave_1 (by decide) ?_
  refine lv_aload_n hx hb dL_leave_2 rfl (lv_at hl 0 rfl) ?_
  refine lv_iload_n hx hb dL_leave_3 rfl (lv_at hl 1 rfl) ?_
  refine zc_xVi (As := [.int p0]) (rest := [.int (nI 0), .ref (ad 33 0)]) hK hZ hb0 hG hS hx hb hml hown hts (c_X6_leave l hl0 p0 hD.C) (cwV 1 hts gL_leave_X6_leave rfl rfl rfl (by decide +kernel) ⟨Nat.le_of_ble_eq_true rfl, Nat.le_of_ble_eq_true rfl⟩) (za_recv (q := (RX6, TX6, 11)) hK hG 0 0 ⟨by omega, rfl⟩ rfl rfl rfl) rfl hl rfl (Nat.le_of_ble_eq_true rfl) dL_leave_4 ⟨Nat.le_of_ble_eq_true rfl, Nat.le_of_ble_eq_true rfl⟩ (fun En ce q9 u_4 H locs hp hG hS g1 g2 g3 => ?_) (fun r_4 u_4 H locs hp hG hS => ?_)
  · rcases hp with ⟨rfl, hco, rfl⟩ | ⟨rfl, hco, rfl⟩
    · refine vx_catch (E := "java/util/NoSuchElementException") (name := "java/util/NoSuchElementException") hown [] ⟨0, 9, 12, 21⟩ [⟨0, 9, 15, 15⟩] (by rw [htb]; rfl) (fun _ h => by cases h) rfl (by decide) (hts (.classLink RL 21 "java/util/NoSuchElementException") (by decide +kernel)) (va_Nw.use rfl (hZ.2.2.2.2.2.1 "java/util/NoSuchElementException" (by simp [za_exs]))) g1 g2 g3 ?_
      refine lv_astore_n (lv' := [(3, .ref q9), (0, .ref (ad 0 0)), (1, .int p0), (2, .ref (ad 33 0))]) hx hb dL_leave_12 rfl hl (by decide) rfl (fun ls hl => ?_)
      refine zb_iconst (n := 1) hx hb dL_leave_13 (by decide) ?_
      exact zm_iret hx hb hr hlocks hG hS (by omega) (by omega) (zw_no hco rfl hD h6) dL_leave_14
    · refine vx_catch (E := "java/lang/IllegalStateException") (name := "java/lang/IllegalStateException") hown [⟨0, 9, 12, 21⟩] ⟨0, 9, 15, 15⟩ [] (by rw [htb]; rfl) (List.forall_mem_cons.mpr ⟨Or.inr ⟨by decide, "java/util/NoSuchElementException", hts (.classLink RL 21 "java/util/NoSuchElementException") (by decide +kernel), hZ.2.2.2.2.2.2.1 "java/lang/IllegalStateException" (by simp [za_exs]) "java/util/NoSuchElementException" (by simp [za_exs]) (by decide)⟩, (fun _ h => by cases h)⟩) rfl (by decide) (hts (.classLink RL 15 "java/lang/IllegalStateException") (by decide +kernel)) (va_Nw.use rfl (hZ.2.2.2.2.2.1 "java/lang/IllegalStateException" (by simp [za_exs]))) g1 g2 g3 ?_
      refine lv_astore_n (lv' := [(3, .ref q9), (0, .ref (ad 0 0)), (1, .int p0), (2, .ref (ad 33 0))]) hx hb dL_leave_15 rfl hl (by decide) rfl (fun ls hl => ?_)
      refine zb_iconst (n := 2) hx hb dL_leave_16 (by decide) ?_
      exact zm_iret hx hb hr hlocks hG hS (by omega) (by omega) (zw_no hco rfl hD h6) dL_leave_17
  · obtain ⟨hco, hre, X2, rfl, q1, q2, q3⟩ := hp
    refine lv_i2l hx hb dL_leave_7 rfl ?_
    refine zst_OL hx hb hK hG hS dL_leave_8 (fun H locs hG hS => ?_)
    refine zb_goto (tgt := 18) hx hb dL_leave_9 (by decide) ?_
    refine zb_iconst (n := 0) hx hb dL_leave_18 (by decide) ?_
    exact zm_iret hx hb hr hlocks hG hS (by omega) (by omega) (zw_ok hco rfl (by rw [hre]) (zk_sm.rf _) (zw_mv hD (zq_po hco).1 (by rintro _ ⟨⟩) (zq_po hco).2 q1 q2 q3) (fun a => by rw [zs_st_1]; exact zs_mv_6 h6 _ _ a)) dL_leave_19

set_option maxRecDepth 100000 in
set_option maxHeartbeats 4000000 in
theorem c_L_split (l : Launch) (hl0 : l.stackTraces = false) {E : za_E} {b : Nat} {ad : za_Ad} {S X T Y : za_S} {ow : Int64} {dw : UInt64} (p0 : Int32) (hD : zs_D S X) (h6 : zs_6 S) : Met l yL_split wsL_split ({ frames := 8, cells := 5, slots := 40, locals := 164 } : Room) (za_PcA E b (ad, S, X, T, Y, ow, dw) [.ref (ad 0 0), .int p0, .ref (ad 33 0)]) (za_Qi E b (fun r u => zw_post ad S T Y dw (zo_sp S (zs_ix p0)) (zs_st (zs_spl (zs_nr S) (zs_ix p0) (S.1 0 1 0) 9) 10) ((nI (S.1 0 1 0)).toInt64) r u)) (5) (40) (za_A b) := by
  refine zw_met (ccm := cL_split) (maxL := 4) (ret := (some .int)) (ws' := _) (own := RL) (lv := [(0, .ref (ad 0 0)), (1, .int p0), (2, .ref (ad 33 0))]) (by decide) rfl rfl rfl (by simp [lg_sl, Value.category]) ?_
  intro pg en s m below meth c hx hb hml hr hown hts hlocks htb hK hZ hAO hb0 hG hS ls hl
  skip
  refine lv_aload_n hx hb dL_split_0 rfl (lv_at hl 2 rfl) ?_
  refine zb_iconst (n := 0) hx hb dL_split_1 (by decide) ?_
  refine lv_aload_n hx hb dL_split_2 rfl (lv_at hl 0 rfl) ?_
  refine lv_iload_n hx hb dL_split_3 rfl (lv_at hl 1 rfl) ?_
  refine zc_xAVi (As := [.int p0]) (rest := [.int (nI 0), .ref (ad 33 0)]) hK hZ hAO hb0 hG hS hx hb hml hown hts (c_X6_split l hl0 p0 hD) (cwV 1 hts gL_split_X6_split rfl rfl rfl (by decide +kernel) ⟨Nat.le_of_ble_eq_true rfl, Nat.le_of_ble_eq_true rfl⟩) (za_recv (q := (RX6, TX6, 11)) hK hG 0 0 ⟨by omega, rfl⟩ rfl rfl rfl) rfl hl rfl (Nat.le_of_ble_eq_true rfl) dL_split_4 ⟨Nat.le_of_ble_eq_true rfl, Nat.le_of_ble_eq_true rfl⟩ (fun En ce q9 u_4 H locs hp hG hS g1 g2 g3 => ?_) (fun r_4 u_4 H locs hp hG hS => ?_)
  · rcases hp with ⟨rfl, hco, rfl⟩ | ⟨rfl, hco, rfl⟩
    · refine vx_catch (E := "java/lang/IndexOutOfBoundsException") (name := "java/lang/IndexOutOfBoundsException") hown [] ⟨0, 9, 12, 36⟩ [⟨0, 9, 15, 15⟩] (by rw [htb]; rfl) (fun _ h => by cases h) rfl (by decide) (hts (.classLink RL 36 "java/lang/IndexOutOfBoundsException") (by decide +kernel)) (va_Nw.use rfl (hZ.2.2.2.2.2.1 "java/lang/IndexOutOfBoundsException" (by simp [za_exs]))) g1 g2 g3 ?_
      refine lv_astore_n (lv' := [(3, .ref q9), (0, .ref (ad 0 0)), (1, .int p0), (2, .ref (ad 33 0))]) hx hb dL_split_12 rfl hl (by decide) rfl (fun ls hl => ?_)
      refine zb_iconst (n := 1) hx hb dL_split_13 (by decide) ?_
      exact zm_iret hx hb hr hlocks hG hS (by omega) (by omega) (zw_no hco rfl hD h6) dL_split_14
    · refine vx_catch (E := "java/lang/IllegalStateException") (name := "java/lang/IllegalStateException") hown [⟨0, 9, 12, 36⟩] ⟨0, 9, 15, 15⟩ [] (by rw [htb]; rfl) (List.forall_mem_cons.mpr ⟨Or.inr ⟨by decide, "java/lang/IndexOutOfBoundsException", hts (.classLink RL 36 "java/lang/IndexOutOfBoundsException") (by decide +kernel), hZ.2.2.2.2.2.2.1 "java/lang/IllegalStateException" (by simp [za_exs]) "java/lang/IndexOutOfBoundsException" (by simp [za_exs]) (by decide)⟩, (fun _ h => by cases h)⟩) rfl (by decide) (hts (.classLink RL 15 "java/lang/IllegalStateException") (by decide +kernel)) (va_Nw.use rfl (hZ.2.2.2.2.2.1 "java/lang/IllegalStateException" (by simp [za_exs]))) g1 g2 g3 ?_
      refine lv_astore_n (lv' := [(3, .ref q9), (0, .ref (ad 0 0)), (1, .int p0), (2, .ref (ad 33 0))]) hx hb dL_split_15 rfl hl (by decide) rfl (fun ls hl => ?_)
      refine zb_iconst (n := 2) hx hb dL_split_16 (by decide) ?_
      exact zm_iret hx hb hr hlocks hG hS (by omega) (by omega) (zw_no hco rfl hD h6) dL_split_17
  · obtain ⟨hco, hre, ad2, X2, rfl, hD2, hsm⟩ := hp
    rw [← hsm 0 (by omega), ← hsm 33 (by omega)] at hl
    refine W.eq (g2 := F0 m 7 ls [.int r_4, .int (nI 0), .ref (ad2 33 0)]) (by rw [hsm 33 (by omega)]) ?_
    refine lv_i2l hx hb dL_split_7 rfl ?_
    refine zst_OL hx hb hK hG hS dL_split_8 (fun H locs hG hS => ?_)
    refine zb_goto (tgt := 18) hx hb dL_split_9 (by decide) ?_
    refine zb_iconst (n := 0) hx hb dL_split_18 (by decide) ?_
    exact zm_iret hx hb hr hlocks hG hS (by omega) (by omega) (zw_ok hco rfl (by rw [hre]) hsm (hD2) (fun a => by rw [zs_st_1]; exact zs_spl_6 (zs_nr_6 h6) _ _ 9 a)) dL_split_19

set_option maxRecDepth 100000 in
set_option maxHeartbeats 4000000 in
theorem c_L_join (l : Launch) (hl0 : l.stackTraces = false) {E : za_E} {b : Nat} {ad : za_Ad} {S X T Y : za_S} {ow : Int64} {dw : UInt64} (p0 p1 : Int32) (hD : zs_D S X) (h6 : zs_6 S) : Met l yL_join wsL_join ({ frames := 8, cells := 5, slots := 40, locals := 167 } : Room) (za_PcA E b (ad, S, X, T, Y, ow, dw) [.ref (ad 0 0), .int p0, .int p1, .ref (ad 33 0)]) (za_Qi E b (fun r u => zw_post ad S T Y dw (zo_jo S (zs_ix p0) (zs_ix p1)) (zs_st (zs_fw (zs_jn S (zs_ix p0) (zs_ix p1) 10) (zs_ix p0) (zs_ix p1) 8) 10) ((nI ((zs_st (zs_fw (zs_jn S (zs_ix p0) (zs_ix p1) 10) (zs_ix p0) (zs_ix p1) 8) 10).1 5 (zs_ix p1) 0)).toInt64) r u)) (5) (40) (za_A b) := by
  refine zw_met (ccm := cL_join) (maxL := 5) (ret := (some .int)) (ws' := _) (own := RL) (lv := [(0, .ref (ad 0 0)), (1, .int p0), (2, .int p1), (3, .ref (ad 33 0))]) (by decide) rfl rfl rfl (by simp [lg_sl, Value.category]) ?_
  intro pg en s m below meth c hx hb hml hr hown hts hlocks htb hK hZ hAO hb0 hG hS ls hl
  skip
  refine lv_aload_n hx hb dL_join_0 rfl (lv_at hl 3 rfl) ?_
  refine zb_iconst (n := 0) hx hb dL_join_1 (by decide) ?_
  refine lv_aload_n hx hb dL_join_2 rfl (lv_at hl 0 rfl) ?_
  refine lv_iload_n hx hb dL_join_3 rfl (lv_at hl 1 rfl) ?_
  refine lv_iload_n hx hb dL_join_4 rfl (lv_at hl 2 rfl) ?_
  refine zc_xVi (As := [.int p0, .int p1]) (rest := [.int (nI 0), .ref (ad 33 0)]) hK hZ hb0 hG hS hx hb hml hown hts (c_X6_join l hl0 p0 p1 hD.C) (cwV 2 hts gL_join_X6_join rfl rfl rfl (by decide +kernel) ⟨Nat.le_of_ble_eq_true rfl, Nat.le_of_ble_eq_true rfl⟩) (za_recv (q := (RX6, TX6, 11)) hK hG 0 0 ⟨by omega, rfl⟩ rfl rfl rfl) rfl hl rfl (Nat.le_of_ble_eq_true rfl) dL_join_5 ⟨Nat.le_of_ble_eq_true rfl, Nat.le_of_ble_eq_true rfl⟩ (fun En ce q9 u_5 H locs hp hG hS g1 g2 g3 => ?_) (fun r_5 u_5 H locs hp hG hS => ?_)
  · rcases hp with ⟨rfl, hco, rfl⟩ | ⟨rfl, hco, rfl⟩
    · refine vx_catch (E := "java/lang/IndexOutOfBoundsException") (name := "java/lang/IndexOutOfBoundsException") hown [] ⟨0, 10, 13, 36⟩ [⟨0, 10, 17, 13⟩] (by rw [htb]; rfl) (fun _ h => by cases h) rfl (by decide) (hts (.classLink RL 36 "java/lang/IndexOutOfBoundsException") (by decide +kernel)) (va_Nw.use rfl (hZ.2.2.2.2.2.1 "java/lang/IndexOutOfBoundsException" (by simp [za_exs]))) g1 g2 g3 ?_
      refine lv_astore (lv' := [(4, .ref q9), (0, .ref (ad 0 0)), (1, .int p0), (2, .int p1), (3, .ref (ad 33 0))]) hx hb dL_join_13 hl (by decide) rfl (fun ls hl => ?_)
      refine zb_iconst (n := 1) hx hb dL_join_15 (by decide) ?_
      exact zm_iret hx hb hr hlocks hG hS (by omega) (by omega) (zw_no hco rfl hD h6) dL_join_16
    · refine vx_catch (E := "java/lang/IllegalArgumentException") (name := "java/lang/IllegalArgumentException") hown [⟨0, 10, 13, 36⟩] ⟨0, 10, 17, 13⟩ [] (by rw [htb]; rfl) (List.forall_mem_cons.mpr ⟨Or.inr ⟨by decide, "java/lang/IndexOutOfBoundsException", hts (.classLink RL 36 "java/lang/IndexOutOfBoundsException") (by decide +kernel), hZ.2.2.2.2.2.2.1 "java/lang/IllegalArgumentException" (by simp [za_exs]) "java/lang/IndexOutOfBoundsException" (by simp [za_exs]) (by decide)⟩, (fun _ h => by cases h)⟩) rfl (by decide) (hts (.classLink RL 13 "java/lang/IllegalArgumentException") (by decide +kernel)) (va_Nw.use rfl (hZ.2.2.2.2.2.1 "java/lang/IllegalArgumentException" (by simp [za_exs]))) g1 g2 g3 ?_
      refine lv_astore (lv' := [(4, .ref q9), (0, .ref (ad 0 0)), (1, .int p0), (2, .int p1), (3, .ref (ad 33 0))]) hx hb dL_join_17 hl (by decide) rfl (fun ls hl => ?_)
      refine zb_iconst (n := 2) hx hb dL_join_19 (by decide) ?_
      exact zm_iret hx hb hr hlocks hG hS (by omega) (by omega) (zw_no hco rfl hD h6) dL_join_20
  · obtain ⟨hco, hre, X2, rfl, q1, q2, q3⟩ := hp
    refine lv_i2l hx hb dL_join_8 rfl ?_
    refine zst_OL hx hb hK hG hS dL_join_9 (fun H locs hG hS => ?_)
    refine zb_goto (tgt := 21) hx hb dL_join_10 (by decide) ?_
    refine zb_iconst (n := 0) hx hb dL_join_21 (by decide) ?_
    exact zm_iret hx hb hr hlocks hG hS (by omega) (by omega) (zw_ok hco rfl (by rw [hre]) (zk_sm.rf _) (zw_jo hD (zq_jo hco).2.1 (zq_jo hco).2.2 q1 q2 q3) (zw_jo6 h6 _ _)) dL_join_22

set_option maxRecDepth 100000 in
set_option maxHeartbeats 4000000 in
theorem c_L_pin (l : Launch) (hl0 : l.stackTraces = false) {E : za_E} {b : Nat} {ad : za_Ad} {S X T Y : za_S} {ow : Int64} {dw : UInt64} (p0 p1 : Int32) (hD : zs_D S X) (h6 : zs_6 S) : Met l yL_pin wsL_pin ({ frames := 8, cells := 5, slots := 40, locals := 140 } : Room) (za_PcA E b (ad, S, X, T, Y, ow, dw) [.ref (ad 0 0), .int p0, .int p1, .ref (ad 33 0)]) (za_Qi E b (fun r u => zw_post ad S T Y dw (zo_pin S (zs_ix p0) (zs_ix p1)) (za_P S 1 (zs_ix p0) 0 (some (zs_ix p1))) ((za_enc (S.2 1 (zs_ix p0) 0)).toInt64) r u)) (5) (40) (za_A b) := by
  refine zw_met (ccm := cL_pin) (maxL := 5) (ret := (some .int)) (ws' := _) (own := RL) (lv := [(0, .ref (ad 0 0)), (1, .int p0), (2, .int p1), (3, .ref (ad 33 0))]) (by decide) rfl rfl rfl (by simp [lg_sl, Value.category]) ?_
  intro pg en s m below meth c hx hb hml hr hown hts hlocks htb hK hZ hAO hb0 hG hS ls hl
  skip
  refine lv_aload_n hx hb dL_pin_0 rfl (lv_at hl 3 rfl) ?_
  refine zb_iconst (n := 0) hx hb dL_pin_1 (by decide) ?_
  refine lv_aload_n hx hb dL_pin_2 rfl (lv_at hl 0 rfl) ?_
  refine lv_iload_n hx hb dL_pin_3 rfl (lv_at hl 1 rfl) ?_
  refine lv_iload_n hx hb dL_pin_4 rfl (lv_at hl 2 rfl) ?_
  refine zc_xVi (As := [.int p0, .int p1]) (rest := [.int (nI 0), .ref (ad 33 0)]) hK hZ hb0 hG hS hx hb hml hown hts (c_X6_pin l hl0 p0 p1 hD.C) (cwV 2 hts gL_pin_X6_pin rfl rfl rfl (by decide +kernel) ⟨Nat.le_of_ble_eq_true rfl, Nat.le_of_ble_eq_true rfl⟩) (za_recv (q := (RX6, TX6, 11)) hK hG 0 0 ⟨by omega, rfl⟩ rfl rfl rfl) rfl hl rfl (Nat.le_of_ble_eq_true rfl) dL_pin_5 ⟨Nat.le_of_ble_eq_true rfl, Nat.le_of_ble_eq_true rfl⟩ (fun En ce q9 u_5 H locs hp hG hS g1 g2 g3 => ?_) (fun r_5 u_5 H locs hp hG hS => ?_)
  · rcases hp with ⟨rfl, hco, rfl⟩ | ⟨rfl, hco, rfl⟩ | ⟨rfl, hco, rfl⟩
    · refine vx_catch (E := "java/util/NoSuchElementException") (name := "java/util/NoSuchElementException") hown [] ⟨0, 10, 13, 21⟩ [⟨0, 10, 17, 13⟩, ⟨0, 10, 21, 50⟩] (by rw [htb]; rfl) (fun _ h => by cases h) rfl (by decide) (hts (.classLink RL 21 "java/util/NoSuchElementException") (by decide +kernel)) (va_Nw.use rfl (hZ.2.2.2.2.2.1 "java/util/NoSuchElementException" (by simp [za_exs]))) g1 g2 g3 ?_
      refine lv_astore (lv' := [(4, .ref q9), (0, .ref (ad 0 0)), (1, .int p0), (2, .int p1), (3, .ref (ad 33 0))]) hx hb dL_pin_13 hl (by decide) rfl (fun ls hl => ?_)
      refine zb_iconst (n := 1) hx hb dL_pin_15 (by decide) ?_
      exact zm_iret hx hb hr hlocks hG hS (by omega) (by omega) (zw_no hco rfl hD h6) dL_pin_16
    · refine vx_catch (E := "java/lang/IllegalArgumentException") (name := "java/lang/IllegalArgumentException") hown [⟨0, 10, 13, 21⟩] ⟨0, 10, 17, 13⟩ [⟨0, 10, 21, 50⟩] (by rw [htb]; rfl) (List.forall_mem_cons.mpr ⟨Or.inr ⟨by decide, "java/util/NoSuchElementException", hts (.classLink RL 21 "java/util/NoSuchElementException") (by decide +kernel), hZ.2.2.2.2.2.2.1 "java/lang/IllegalArgumentException" (by simp [za_exs]) "java/util/NoSuchElementException" (by simp [za_exs]) (by decide)⟩, (fun _ h => by cases h)⟩) rfl (by decide) (hts (.classLink RL 13 "java/lang/IllegalArgumentException") (by decide +kernel)) (va_Nw.use rfl (hZ.2.2.2.2.2.1 "java/lang/IllegalArgumentException" (by simp [za_exs]))) g1 g2 g3 ?_
      refine lv_astore (lv' := [(4, .ref q9), (0, .ref (ad 0 0)), (1, .int p0), (2, .int p1), (3, .ref (ad 33 0))]) hx hb dL_pin_17 hl (by decide) rfl (fun ls hl => ?_)
      refine zb_iconst (n := 2) hx hb dL_pin_19 (by decide) ?_
      exact zm_iret hx hb hr hlocks hG hS (by omega) (by omega) (zw_no hco rfl hD h6) dL_pin_20
    · refine vx_catch (E := "java/lang/UnsupportedOperationException") (name := "java/lang/UnsupportedOperationException") hown [⟨0, 10, 13, 21⟩, ⟨0, 10, 17, 13⟩] ⟨0, 10, 21, 50⟩ [] (by rw [htb]; rfl) (List.forall_mem_cons.mpr ⟨Or.inr ⟨by decide, "java/util/NoSuchElementException", hts (.classLink RL 21 "java/util/NoSuchElementException") (by decide +kernel), hZ.2.2.2.2.2.2.1 "java/lang/UnsupportedOperationException" (by simp [za_exs]) "java/util/NoSuchElementException" (by simp [za_exs]) (by decide)⟩, (List.forall_mem_cons.mpr ⟨Or.inr ⟨by decide, "java/lang/IllegalArgumentException", hts (.classLink RL 13 "java/lang/IllegalArgumentException") (by decide +kernel), hZ.2.2.2.2.2.2.1 "java/lang/UnsupportedOperationException" (by simp [za_exs]) "java/lang/IllegalArgumentException" (by simp [za_exs]) (by decide)⟩, (fun _ h => by cases h)⟩)⟩) rfl (by decide) (hts (.classLink RL 50 "java/lang/UnsupportedOperationException") (by decide +kernel)) (va_Nw.use rfl (hZ.2.2.2.2.2.1 "java/lang/UnsupportedOperationException" (by simp [za_exs]))) g1 g2 g3 ?_
      refine lv_astore (lv' := [(4, .ref q9), (0, .ref (ad 0 0)), (1, .int p0), (2, .int p1), (3, .ref (ad 33 0))]) hx hb dL_pin_21 hl (by decide) rfl (fun ls hl => ?_)
      refine zb_iconst (n := 3) hx hb dL_pin_23 (by decide) ?_
      exact zm_iret hx hb hr hlocks hG hS (by omega) (by omega) (zw_no hco rfl hD h6) dL_pin_24
  · obtain ⟨hco, hre, X2, rfl, q1, q2, q3⟩ := hp
    refine lv_i2l hx hb dL_pin_8 rfl ?_
    refine zst_OL hx hb hK hG hS dL_pin_9 (fun H locs hG hS => ?_)
    refine zb_goto (tgt := 25) hx hb dL_pin_10 (by decide) ?_
    refine zb_iconst (n := 0) hx hb dL_pin_25 (by decide) ?_
    exact zm_iret hx hb hr hlocks hG hS (by omega) (by omega) (zw_ok hco rfl (by rw [hre]) (zk_sm.rf _) (zw_pin hD hco q1 q2 q3) (fun a => h6 a)) dL_pin_26

set_option maxRecDepth 100000 in
set_option maxHeartbeats 4000000 in
theorem c_L_unpin (l : Launch) (hl0 : l.stackTraces = false) {E : za_E} {b : Nat} {ad : za_Ad} {S X T Y : za_S} {ow : Int64} {dw : UInt64} (p0 : Int32) (hD : zs_D S X) (h6 : zs_6 S) : Met l yL_unpin wsL_unpin ({ frames := 8, cells := 5, slots := 40, locals := 138 } : Room) (za_PcA E b (ad, S, X, T, Y, ow, dw) [.ref (ad 0 0), .int p0, .ref (ad 33 0)]) (za_Qi E b (fun r u => zw_post ad S T Y dw (zo_po S (zs_ix p0) 1) (za_P S 1 (zs_ix p0) 0 none) ((nI ((S.2 1 (zs_ix p0) 0).getD 0)).toInt64) r u)) (5) (40) (za_A b) := by
  refine zw_met (ccm := cL_unpin) (maxL := 4) (ret := (some .int)) (ws' := _) (own := RL) (lv := [(0, .ref (ad 0 0)), (1, .int p0), (2, .ref (ad 33 0))]) (by decide) rfl rfl rfl (by simp [lg_sl, Value.category]) ?_
  intro pg en s m below meth c hx hb hml hr hown hts hlocks htb hK hZ hAO hb0 hG hS ls hl
  skip
  refine lv_aload_n hx hb dL_unpin_0 rfl (lv_at hl 2 rfl) ?_
  refine zb_iconst (n := 0) hx hb dL_unpin_1 (by decide) ?_
  refine lv_aload_n hx hb dL_unpin_2 rfl (lv_at hl 0 rfl) ?_
  refine lv_iload_n hx hb dL_unpin_3 rfl (lv_at hl 1 rfl) ?_
  refine zc_xVi (As := [.int p0]) (rest := [.int (nI 0), .ref (ad 33 0)]) hK hZ hb0 hG hS hx hb hml hown hts (c_X6_unpin l hl0 p0 hD.C) (cwV 1 hts gL_unpin_X6_unpin rfl rfl rfl (by decide +kernel) ⟨Nat.le_of_ble_eq_true rfl, Nat.le_of_ble_eq_true rfl⟩) (za_recv (q := (RX6, TX6, 11)) hK hG 0 0 ⟨by omega, rfl⟩ rfl rfl rfl) rfl hl rfl (Nat.le_of_ble_eq_true rfl) dL_unpin_4 ⟨Nat.le_of_ble_eq_true rfl, Nat.le_of_ble_eq_true rfl⟩ (fun En ce q9 u_4 H locs hp hG hS g1 g2 g3 => ?_) (fun r_4 u_4 H locs hp hG hS => ?_)
  · rcases hp with ⟨rfl, hco, rfl⟩ | ⟨rfl, hco, rfl⟩
    · refine vx_catch (E := "java/util/NoSuchElementException") (name := "java/util/NoSuchElementException") hown [] ⟨0, 9, 12, 21⟩ [⟨0, 9, 15, 15⟩] (by rw [htb]; rfl) (fun _ h => by cases h) rfl (by decide) (hts (.classLink RL 21 "java/util/NoSuchElementException") (by decide +kernel)) (va_Nw.use rfl (hZ.2.2.2.2.2.1 "java/util/NoSuchElementException" (by simp [za_exs]))) g1 g2 g3 ?_
      refine lv_astore_n (lv' := [(3, .ref q9), (0, .ref (ad 0 0)), (1, .int p0), (2, .ref (ad 33 0))]) hx hb dL_unpin_12 rfl hl (by decide) rfl (fun ls hl => ?_)
      refine zb_iconst (n := 1) hx hb dL_unpin_13 (by decide) ?_
      exact zm_iret hx hb hr hlocks hG hS (by omega) (by omega) (zw_no hco rfl hD h6) dL_unpin_14
    · refine vx_catch (E := "java/lang/IllegalStateException") (name := "java/lang/IllegalStateException") hown [⟨0, 9, 12, 21⟩] ⟨0, 9, 15, 15⟩ [] (by rw [htb]; rfl) (List.forall_mem_cons.mpr ⟨Or.inr ⟨by decide, "java/util/NoSuchElementException", hts (.classLink RL 21 "java/util/NoSuchElementException") (by decide +kernel), hZ.2.2.2.2.2.2.1 "java/lang/IllegalStateException" (by simp [za_exs]) "java/util/NoSuchElementException" (by simp [za_exs]) (by decide)⟩, (fun _ h => by cases h)⟩) rfl (by decide) (hts (.classLink RL 15 "java/lang/IllegalStateException") (by decide +kernel)) (va_Nw.use rfl (hZ.2.2.2.2.2.1 "java/lang/IllegalStateException" (by simp [za_exs]))) g1 g2 g3 ?_
      refine lv_astore_n (lv' := [(3, .ref q9), (0, .ref (ad 0 0)), (1, .int p0), (2, .ref (ad 33 0))]) hx hb dL_unpin_15 rfl hl (by decide) rfl (fun ls hl => ?_)
      refine zb_iconst (n := 2) hx hb dL_unpin_16 (by decide) ?_
      exact zm_iret hx hb hr hlocks hG hS (by omega) (by omega) (zw_no hco rfl hD h6) dL_unpin_17
  · obtain ⟨hco, hre, X2, rfl, q1, q2, q3⟩ := hp
    refine lv_i2l hx hb dL_unpin_7 rfl ?_
    refine zst_OL hx hb hK hG hS dL_unpin_8 (fun H locs hG hS => ?_)
    refine zb_goto (tgt := 18) hx hb dL_unpin_9 (by decide) ?_
    refine zb_iconst (n := 0) hx hb dL_unpin_18 (by decide) ?_
    exact zm_iret hx hb hr hlocks hG hS (by omega) (by omega) (zw_ok hco rfl (by rw [hre]) (zk_sm.rf _) (zw_unpin hD hco q1 q2 q3) (fun a => h6 a)) dL_unpin_19

set_option maxRecDepth 100000 in
set_option maxHeartbeats 4000000 in
theorem c_L_roomOf (l : Launch) (hl0 : l.stackTraces = false) {E : za_E} {b : Nat} {ad : za_Ad} {S X T Y : za_S} {ow : Int64} {dw : UInt64} (p0 : Int32) (hD : zs_D S X) (h6 : zs_6 S) : Met l yL_roomOf wsL_roomOf ({ frames := 8, cells := 5, slots := 40, locals := 126 } : Room) (za_PcA E b (ad, S, X, T, Y, ow, dw) [.ref (ad 0 0), .int p0, .ref (ad 33 0)]) (za_Qi E b (fun r u => zw_post ad S T Y dw (zo_po S (zs_ix p0) 0) (S) ((nI ((S.2 0 (zs_ix p0) 0).getD 0)).toInt64) r u)) (5) (40) (za_A b) := by
  refine zw_met (ccm := cL_roomOf) (maxL := 4) (ret := (some .int)) (ws' := _) (own := RL) (lv := [(0, .ref (ad 0 0)), (1, .int p0), (2, .ref (ad 33 0))]) (by decide) rfl rfl rfl (by simp [lg_sl, Value.category]) ?_
  intro pg en s m below meth c hx hb hml hr hown hts hlocks htb hK hZ hAO hb0 hG hS ls hl
  skip
  refine lv_aload_n hx hb dL_roomOf_0 rfl (lv_at hl 2 rfl) ?_
  refine zb_iconst (n := 0) hx hb dL_roomOf_1 (by decide) ?_
  refine lv_aload_n hx hb dL_roomOf_2 rfl (lv_at hl 0 rfl) ?_
  refine lv_iload_n hx hb dL_roomOf_3 rfl (lv_at hl 1 rfl) ?_
  refine zc_xVi (As := [.int p0]) (rest := [.int (nI 0), .ref (ad 33 0)]) hK hZ hb0 hG hS hx hb hml hown hts (c_X6_roomOf l hl0 p0 hD.C) (cwV 1 hts gL_roomOf_X6_roomOf rfl rfl rfl (by decide +kernel) ⟨Nat.le_of_ble_eq_true rfl, Nat.le_of_ble_eq_true rfl⟩) (za_recv (q := (RX6, TX6, 11)) hK hG 0 0 ⟨by omega, rfl⟩ rfl rfl rfl) rfl hl rfl (Nat.le_of_ble_eq_true rfl) dL_roomOf_4 ⟨Nat.le_of_ble_eq_true rfl, Nat.le_of_ble_eq_true rfl⟩ (fun En ce q9 u_4 H locs hp hG hS g1 g2 g3 => ?_) (fun r_4 u_4 H locs hp hG hS => ?_)
  · rcases hp with ⟨rfl, hco, rfl⟩ | ⟨rfl, hco, rfl⟩
    · refine vx_catch (E := "java/util/NoSuchElementException") (name := "java/util/NoSuchElementException") hown [] ⟨0, 9, 12, 21⟩ [⟨0, 9, 15, 15⟩] (by rw [htb]; rfl) (fun _ h => by cases h) rfl (by decide) (hts (.classLink RL 21 "java/util/NoSuchElementException") (by decide +kernel)) (va_Nw.use rfl (hZ.2.2.2.2.2.1 "java/util/NoSuchElementException" (by simp [za_exs]))) g1 g2 g3 ?_
      refine lv_astore_n (lv' := [(3, .ref q9), (0, .ref (ad 0 0)), (1, .int p0), (2, .ref (ad 33 0))]) hx hb dL_roomOf_12 rfl hl (by decide) rfl (fun ls hl => ?_)
      refine zb_iconst (n := 1) hx hb dL_roomOf_13 (by decide) ?_
      exact zm_iret hx hb hr hlocks hG hS (by omega) (by omega) (zw_no hco rfl hD h6) dL_roomOf_14
    · refine vx_catch (E := "java/lang/IllegalStateException") (name := "java/lang/IllegalStateException") hown [⟨0, 9, 12, 21⟩] ⟨0, 9, 15, 15⟩ [] (by rw [htb]; rfl) (List.forall_mem_cons.mpr ⟨Or.inr ⟨by decide, "java/util/NoSuchElementException", hts (.classLink RL 21 "java/util/NoSuchElementException") (by decide +kernel), hZ.2.2.2.2.2.2.1 "java/lang/IllegalStateException" (by simp [za_exs]) "java/util/NoSuchElementException" (by simp [za_exs]) (by decide)⟩, (fun _ h => by cases h)⟩) rfl (by decide) (hts (.classLink RL 15 "java/lang/IllegalStateException") (by decide +kernel)) (va_Nw.use rfl (hZ.2.2.2.2.2.1 "java/lang/IllegalStateException" (by simp [za_exs]))) g1 g2 g3 ?_
      refine lv_astore_n (lv' := [(3, .ref q9), (0, .ref (ad 0 0)), (1, .int p0), (2, .ref (ad 33 0))]) hx hb dL_roomOf_15 rfl hl (by decide) rfl (fun ls hl => ?_)
      refine zb_iconst (n := 2) hx hb dL_roomOf_16 (by decide) ?_
      exact zm_iret hx hb hr hlocks hG hS (by omega) (by omega) (zw_no hco rfl hD h6) dL_roomOf_17
  · obtain ⟨hco, hre, rfl⟩ := hp
    refine lv_i2l hx hb dL_roomOf_7 rfl ?_
    refine zst_OL hx hb hK hG hS dL_roomOf_8 (fun H locs hG hS => ?_)
    refine zb_goto (tgt := 18) hx hb dL_roomOf_9 (by decide) ?_
    refine zb_iconst (n := 0) hx hb dL_roomOf_18 (by decide) ?_
    exact zm_iret hx hb hr hlocks hG hS (by omega) (by omega) (zw_ok hco rfl (by rw [hre]) (zk_sm.rf _) (hD) (h6)) dL_roomOf_19

set_option maxRecDepth 100000 in
set_option maxHeartbeats 4000000 in
theorem c_L_inRoom (l : Launch) (hl0 : l.stackTraces = false) {E : za_E} {b : Nat} {ad : za_Ad} {S X T Y : za_S} {ow : Int64} {dw : UInt64} (p0 : Int32) (hD : zs_D S X) (h6 : zs_6 S) : Met l yL_inRoom wsL_inRoom ({ frames := 8, cells := 5, slots := 40, locals := 125 } : Room) (za_PcA E b (ad, S, X, T, Y, ow, dw) [.ref (ad 0 0), .int p0, .ref (ad 33 0)]) (za_Qi E b (fun r u => zw_post ad S T Y dw (zo_r S (zs_ix p0)) (S) ((nI (S.1 5 (zs_ix p0) 0)).toInt64) r u)) (5) (40) (za_A b) := by
  refine zw_met (ccm := cL_inRoom) (maxL := 4) (ret := (some .int)) (ws' := _) (own := RL) (lv := [(0, .ref (ad 0 0)), (1, .int p0), (2, .ref (ad 33 0))]) (by decide) rfl rfl rfl (by simp [lg_sl, Value.category]) ?_
  intro pg en s m below meth c hx hb hml hr hown hts hlocks htb hK hZ hAO hb0 hG hS ls hl
  skip
  refine lv_aload_n hx hb dL_inRoom_0 rfl (lv_at hl 2 rfl) ?_
  refine zb_iconst (n := 0) hx hb dL_inRoom_1 (by decide) ?_
  refine lv_aload_n hx hb dL_inRoom_2 rfl (lv_at hl 0 rfl) ?_
  refine lv_iload_n hx hb dL_inRoom_3 rfl (lv_at hl 1 rfl) ?_
  refine zc_xVi (As := [.int p0]) (rest := [.int (nI 0), .ref (ad 33 0)]) hK hZ hb0 hG hS hx hb hml hown hts (c_X6_inRoom l hl0 p0 hD.C) (cwV 1 hts gL_inRoom_X6_inRoom rfl rfl rfl (by decide +kernel) ⟨Nat.le_of_ble_eq_true rfl, Nat.le_of_ble_eq_true rfl⟩) (za_recv (q := (RX6, TX6, 11)) hK hG 0 0 ⟨by omega, rfl⟩ rfl rfl rfl) rfl hl rfl (Nat.le_of_ble_eq_true rfl) dL_inRoom_4 ⟨Nat.le_of_ble_eq_true rfl, Nat.le_of_ble_eq_true rfl⟩ (fun En ce q9 u_4 H locs hp hG hS g1 g2 g3 => ?_) (fun r_4 u_4 H locs hp hG hS => ?_)
  · obtain ⟨rfl, hco, rfl⟩ := hp
    refine vx_catch (E := "java/lang/IndexOutOfBoundsException") (name := "java/lang/IndexOutOfBoundsException") hown [] ⟨0, 9, 12, 36⟩ [] (by rw [htb]; rfl) (fun _ h => by cases h) rfl (by decide) (hts (.classLink RL 36 "java/lang/IndexOutOfBoundsException") (by decide +kernel)) (va_Nw.use rfl (hZ.2.2.2.2.2.1 "java/lang/IndexOutOfBoundsException" (by simp [za_exs]))) g1 g2 g3 ?_
    refine lv_astore_n (lv' := [(3, .ref q9), (0, .ref (ad 0 0)), (1, .int p0), (2, .ref (ad 33 0))]) hx hb dL_inRoom_12 rfl hl (by decide) rfl (fun ls hl => ?_)
    refine zb_iconst (n := 1) hx hb dL_inRoom_13 (by decide) ?_
    exact zm_iret hx hb hr hlocks hG hS (by omega) (by omega) (zw_no hco rfl hD h6) dL_inRoom_14
  · obtain ⟨hco, hre, rfl⟩ := hp
    refine lv_i2l hx hb dL_inRoom_7 rfl ?_
    refine zst_OL hx hb hK hG hS dL_inRoom_8 (fun H locs hG hS => ?_)
    refine zb_goto (tgt := 15) hx hb dL_inRoom_9 (by decide) ?_
    refine zb_iconst (n := 0) hx hb dL_inRoom_15 (by decide) ?_
    exact zm_iret hx hb hr hlocks hG hS (by omega) (by omega) (zw_ok hco rfl (by rw [hre]) (zk_sm.rf _) (hD) (h6)) dL_inRoom_16

set_option maxRecDepth 100000 in
set_option maxHeartbeats 4000000 in
theorem c_L_personAt (l : Launch) (hl0 : l.stackTraces = false) {E : za_E} {b : Nat} {ad : za_Ad} {S X T Y : za_S} {ow : Int64} {dw : UInt64} (p0 p1 : Int32) (hD : zs_D S X) (h6 : zs_6 S) : Met l yL_personAt wsL_personAt ({ frames := 8, cells := 5, slots := 40, locals := 127 } : Room) (za_PcA E b (ad, S, X, T, Y, ow, dw) [.ref (ad 0 0), .int p0, .int p1, .ref (ad 33 0)]) (za_Qi E b (fun r u => zw_post ad S T Y dw (zo_ra S (zs_ix p0) (zs_ix p1)) (S) ((nI ((zs_at S (zs_ix p0) (zs_ix p1)).getD 0)).toInt64) r u)) (5) (40) (za_A b) := by
  refine zw_met (ccm := cL_personAt) (maxL := 5) (ret := (some .int)) (ws' := _) (own := RL) (lv := [(0, .ref (ad 0 0)), (1, .int p0), (2, .int p1), (3, .ref (ad 33 0))]) (by decide) rfl rfl rfl (by simp [lg_sl, Value.category]) ?_
  intro pg en s m below meth c hx hb hml hr hown hts hlocks htb hK hZ hAO hb0 hG hS ls hl
  skip
  refine lv_aload_n hx hb dL_personAt_0 rfl (lv_at hl 3 rfl) ?_
  refine zb_iconst (n := 0) hx hb dL_personAt_1 (by decide) ?_
  refine lv_aload_n hx hb dL_personAt_2 rfl (lv_at hl 0 rfl) ?_
  refine lv_iload_n hx hb dL_personAt_3 rfl (lv_at hl 1 rfl) ?_
  refine lv_iload_n hx hb dL_personAt_4 rfl (lv_at hl 2 rfl) ?_
  refine zc_xVi (As := [.int p0, .int p1]) (rest := [.int (nI 0), .ref (ad 33 0)]) hK hZ hb0 hG hS hx hb hml hown hts (c_X6_personAt l hl0 p0 p1 hD.C) (cwV 2 hts gL_personAt_X6_personAt rfl rfl rfl (by decide +kernel) ⟨Nat.le_of_ble_eq_true rfl, Nat.le_of_ble_eq_true rfl⟩) (za_recv (q := (RX6, TX6, 11)) hK hG 0 0 ⟨by omega, rfl⟩ rfl rfl rfl) rfl hl rfl (Nat.le_of_ble_eq_true rfl) dL_personAt_5 ⟨Nat.le_of_ble_eq_true rfl, Nat.le_of_ble_eq_true rfl⟩ (fun En ce q9 u_5 H locs hp hG hS g1 g2 g3 => ?_) (fun r_5 u_5 H locs hp hG hS => ?_)
  · rcases hp with ⟨rfl, hco, rfl⟩ | ⟨rfl, hco, rfl⟩
    · refine vx_catch (E := "java/lang/IndexOutOfBoundsException") (name := "java/lang/IndexOutOfBoundsException") hown [] ⟨0, 10, 13, 36⟩ [⟨0, 10, 17, 21⟩] (by rw [htb]; rfl) (fun _ h => by cases h) rfl (by decide) (hts (.classLink RL 36 "java/lang/IndexOutOfBoundsException") (by decide +kernel)) (va_Nw.use rfl (hZ.2.2.2.2.2.1 "java/lang/IndexOutOfBoundsException" (by simp [za_exs]))) g1 g2 g3 ?_
      refine lv_astore (lv' := [(4, .ref q9), (0, .ref (ad 0 0)), (1, .int p0), (2, .int p1), (3, .ref (ad 33 0))]) hx hb dL_personAt_13 hl (by decide) rfl (fun ls hl => ?_)
      refine zb_iconst (n := 1) hx hb dL_personAt_15 (by decide) ?_
      exact zm_iret hx hb hr hlocks hG hS (by omega) (by omega) (zw_no hco rfl hD h6) dL_personAt_16
    · refine vx_catch (E := "java/util/NoSuchElementException") (name := "java/util/NoSuchElementException") hown [⟨0, 10, 13, 36⟩] ⟨0, 10, 17, 21⟩ [] (by rw [htb]; rfl) (List.forall_mem_cons.mpr ⟨Or.inr ⟨by decide, "java/lang/IndexOutOfBoundsException", hts (.classLink RL 36 "java/lang/IndexOutOfBoundsException") (by decide +kernel), hZ.2.2.2.2.2.2.1 "java/util/NoSuchElementException" (by simp [za_exs]) "java/lang/IndexOutOfBoundsException" (by simp [za_exs]) (by decide)⟩, (fun _ h => by cases h)⟩) rfl (by decide) (hts (.classLink RL 21 "java/util/NoSuchElementException") (by decide +kernel)) (va_Nw.use rfl (hZ.2.2.2.2.2.1 "java/util/NoSuchElementException" (by simp [za_exs]))) g1 g2 g3 ?_
      refine lv_astore (lv' := [(4, .ref q9), (0, .ref (ad 0 0)), (1, .int p0), (2, .int p1), (3, .ref (ad 33 0))]) hx hb dL_personAt_17 hl (by decide) rfl (fun ls hl => ?_)
      refine zb_iconst (n := 2) hx hb dL_personAt_19 (by decide) ?_
      exact zm_iret hx hb hr hlocks hG hS (by omega) (by omega) (zw_no hco rfl hD h6) dL_personAt_20
  · obtain ⟨hco, hre, rfl⟩ := hp
    refine lv_i2l hx hb dL_personAt_8 rfl ?_
    refine zst_OL hx hb hK hG hS dL_personAt_9 (fun H locs hG hS => ?_)
    refine zb_goto (tgt := 21) hx hb dL_personAt_10 (by decide) ?_
    refine zb_iconst (n := 0) hx hb dL_personAt_21 (by decide) ?_
    exact zm_iret hx hb hr hlocks hG hS (by omega) (by omega) (zw_ok hco rfl (by rw [hre]) (zk_sm.rf _) (hD) (h6)) dL_personAt_22

set_option maxRecDepth 100000 in
set_option maxHeartbeats 4000000 in
theorem c_L_speaker (l : Launch) (hl0 : l.stackTraces = false) {E : za_E} {b : Nat} {ad : za_Ad} {S X T Y : za_S} {ow : Int64} {dw : UInt64} (p0 : Int32) (hD : zs_D S X) (h6 : zs_6 S) : Met l yL_speaker wsL_speaker ({ frames := 8, cells := 5, slots := 40, locals := 126 } : Room) (za_PcA E b (ad, S, X, T, Y, ow, dw) [.ref (ad 0 0), .int p0, .ref (ad 33 0)]) (za_Qi E b (fun r u => zw_post ad S T Y dw (zo_rs S (zs_ix p0)) (S) ((nI ((S.2 3 (zs_ix p0) 0).getD 0)).toInt64) r u)) (5) (40) (za_A b) := by
  refine zw_met (ccm := cL_speaker) (maxL := 4) (ret := (some .int)) (ws' := _) (own := RL) (lv := [(0, .ref (ad 0 0)), (1, .int p0), (2, .ref (ad 33 0))]) (by decide) rfl rfl rfl (by simp [lg_sl, Value.category]) ?_
  intro pg en s m below meth c hx hb hml hr hown hts hlocks htb hK hZ hAO hb0 hG hS ls hl
  skip
  refine lv_aload_n hx hb dL_speaker_0 rfl (lv_at hl 2 rfl) ?_
  refine zb_iconst (n := 0) hx hb dL_speaker_1 (by decide) ?_
  refine lv_aload_n hx hb dL_speaker_2 rfl (lv_at hl 0 rfl) ?_
  refine lv_iload_n hx hb dL_speaker_3 rfl (lv_at hl 1 rfl) ?_
  refine zc_xVi (As := [.int p0]) (rest := [.int (nI 0), .ref (ad 33 0)]) hK hZ hb0 hG hS hx hb hml hown hts (c_X6_speaker l hl0 p0 hD.C) (cwV 1 hts gL_speaker_X6_speaker rfl rfl rfl (by decide +kernel) ⟨Nat.le_of_ble_eq_true rfl, Nat.le_of_ble_eq_true rfl⟩) (za_recv (q := (RX6, TX6, 11)) hK hG 0 0 ⟨by omega, rfl⟩ rfl rfl rfl) rfl hl rfl (Nat.le_of_ble_eq_true rfl) dL_speaker_4 ⟨Nat.le_of_ble_eq_true rfl, Nat.le_of_ble_eq_true rfl⟩ (fun En ce q9 u_4 H locs hp hG hS g1 g2 g3 => ?_) (fun r_4 u_4 H locs hp hG hS => ?_)
  · rcases hp with ⟨rfl, hco, rfl⟩ | ⟨rfl, hco, rfl⟩
    · refine vx_catch (E := "java/lang/IndexOutOfBoundsException") (name := "java/lang/IndexOutOfBoundsException") hown [] ⟨0, 9, 12, 36⟩ [⟨0, 9, 15, 21⟩] (by rw [htb]; rfl) (fun _ h => by cases h) rfl (by decide) (hts (.classLink RL 36 "java/lang/IndexOutOfBoundsException") (by decide +kernel)) (va_Nw.use rfl (hZ.2.2.2.2.2.1 "java/lang/IndexOutOfBoundsException" (by simp [za_exs]))) g1 g2 g3 ?_
      refine lv_astore_n (lv' := [(3, .ref q9), (0, .ref (ad 0 0)), (1, .int p0), (2, .ref (ad 33 0))]) hx hb dL_speaker_12 rfl hl (by decide) rfl (fun ls hl => ?_)
      refine zb_iconst (n := 1) hx hb dL_speaker_13 (by decide) ?_
      exact zm_iret hx hb hr hlocks hG hS (by omega) (by omega) (zw_no hco rfl hD h6) dL_speaker_14
    · refine vx_catch (E := "java/util/NoSuchElementException") (name := "java/util/NoSuchElementException") hown [⟨0, 9, 12, 36⟩] ⟨0, 9, 15, 21⟩ [] (by rw [htb]; rfl) (List.forall_mem_cons.mpr ⟨Or.inr ⟨by decide, "java/lang/IndexOutOfBoundsException", hts (.classLink RL 36 "java/lang/IndexOutOfBoundsException") (by decide +kernel), hZ.2.2.2.2.2.2.1 "java/util/NoSuchElementException" (by simp [za_exs]) "java/lang/IndexOutOfBoundsException" (by simp [za_exs]) (by decide)⟩, (fun _ h => by cases h)⟩) rfl (by decide) (hts (.classLink RL 21 "java/util/NoSuchElementException") (by decide +kernel)) (va_Nw.use rfl (hZ.2.2.2.2.2.1 "java/util/NoSuchElementException" (by simp [za_exs]))) g1 g2 g3 ?_
      refine lv_astore_n (lv' := [(3, .ref q9), (0, .ref (ad 0 0)), (1, .int p0), (2, .ref (ad 33 0))]) hx hb dL_speaker_15 rfl hl (by decide) rfl (fun ls hl => ?_)
      refine zb_iconst (n := 2) hx hb dL_speaker_16 (by decide) ?_
      exact zm_iret hx hb hr hlocks hG hS (by omega) (by omega) (zw_no hco rfl hD h6) dL_speaker_17
  · obtain ⟨hco, hre, rfl⟩ := hp
    refine lv_i2l hx hb dL_speaker_7 rfl ?_
    refine zst_OL hx hb hK hG hS dL_speaker_8 (fun H locs hG hS => ?_)
    refine zb_goto (tgt := 18) hx hb dL_speaker_9 (by decide) ?_
    refine zb_iconst (n := 0) hx hb dL_speaker_18 (by decide) ?_
    exact zm_iret hx hb hr hlocks hG hS (by omega) (by omega) (zw_ok hco rfl (by rw [hre]) (zk_sm.rf _) (hD) (h6)) dL_speaker_19

set_option maxRecDepth 100000 in
set_option maxHeartbeats 4000000 in
theorem c_L_challenge (l : Launch) (hl0 : l.stackTraces = false) {E : za_E} {b : Nat} {ad : za_Ad} {S X T Y : za_S} {ow : Int64} {dw : UInt64} (p0 : Int32) (hD : zs_D S X) (h6 : zs_6 S) : Met l yL_challenge wsL_challenge ({ frames := 8, cells := 5, slots := 40, locals := 125 } : Room) (za_PcA E b (ad, S, X, T, Y, ow, dw) [.ref (ad 0 0), .int p0, .ref (ad 33 0)]) (za_Qi E b (fun r u => zw_post ad S T Y dw (zo_r S (zs_ix p0)) (S) ((nI (S.1 6 (zs_ix p0) 0)).toInt64) r u)) (5) (40) (za_A b) := by
  refine zw_met (ccm := cL_challenge) (maxL := 4) (ret := (some .int)) (ws' := _) (own := RL) (lv := [(0, .ref (ad 0 0)), (1, .int p0), (2, .ref (ad 33 0))]) (by decide) rfl rfl rfl (by simp [lg_sl, Value.category]) ?_
  intro pg en s m below meth c hx hb hml hr hown hts hlocks htb hK hZ hAO hb0 hG hS ls hl
  skip
  refine lv_aload_n hx hb dL_challenge_0 rfl (lv_at hl 2 rfl) ?_
  refine zb_iconst (n := 0) hx hb dL_challenge_1 (by decide) ?_
  refine lv_aload_n hx hb dL_challenge_2 rfl (lv_at hl 0 rfl) ?_
  refine lv_iload_n hx hb dL_challenge_3 rfl (lv_at hl 1 rfl) ?_
  refine zc_xVi (As := [.int p0]) (rest := [.int (nI 0), .ref (ad 33 0)]) hK hZ hb0 hG hS hx hb hml hown hts (c_X6_challenge l hl0 p0 hD.C) (cwV 1 hts gL_challenge_X6_challenge rfl rfl rfl (by decide +kernel) ⟨Nat.le_of_ble_eq_true rfl, Nat.le_of_ble_eq_true rfl⟩) (za_recv (q := (RX6, TX6, 11)) hK hG 0 0 ⟨by omega, rfl⟩ rfl rfl rfl) rfl hl rfl (Nat.le_of_ble_eq_true rfl) dL_challenge_4 ⟨Nat.le_of_ble_eq_true rfl, Nat.le_of_ble_eq_true rfl⟩ (fun En ce q9 u_4 H locs hp hG hS g1 g2 g3 => ?_) (fun r_4 u_4 H locs hp hG hS => ?_)
  · obtain ⟨rfl, hco, rfl⟩ := hp
    refine vx_catch (E := "java/lang/IndexOutOfBoundsException") (name := "java/lang/IndexOutOfBoundsException") hown [] ⟨0, 9, 12, 36⟩ [] (by rw [htb]; rfl) (fun _ h => by cases h) rfl (by decide) (hts (.classLink RL 36 "java/lang/IndexOutOfBoundsException") (by decide +kernel)) (va_Nw.use rfl (hZ.2.2.2.2.2.1 "java/lang/IndexOutOfBoundsException" (by simp [za_exs]))) g1 g2 g3 ?_
    refine lv_astore_n (lv' := [(3, .ref q9), (0, .ref (ad 0 0)), (1, .int p0), (2, .ref (ad 33 0))]) hx hb dL_challenge_12 rfl hl (by decide) rfl (fun ls hl => ?_)
    refine zb_iconst (n := 1) hx hb dL_challenge_13 (by decide) ?_
    exact zm_iret hx hb hr hlocks hG hS (by omega) (by omega) (zw_no hco rfl hD h6) dL_challenge_14
  · obtain ⟨hco, hre, rfl⟩ := hp
    refine lv_i2l hx hb dL_challenge_7 rfl ?_
    refine zst_OL hx hb hK hG hS dL_challenge_8 (fun H locs hG hS => ?_)
    refine zb_goto (tgt := 15) hx hb dL_challenge_9 (by decide) ?_
    refine zb_iconst (n := 0) hx hb dL_challenge_15 (by decide) ?_
    exact zm_iret hx hb hr hlocks hG hS (by omega) (by omega) (zw_ok hco rfl (by rw [hre]) (zk_sm.rf _) (hD) (h6)) dL_challenge_16

set_option maxRecDepth 100000 in
set_option maxHeartbeats 4000000 in
theorem c_L_turnAt (l : Launch) (hl0 : l.stackTraces = false) {E : za_E} {b : Nat} {ad : za_Ad} {S X T Y : za_S} {ow : Int64} {dw : UInt64} (p0 : Int32) (hD : zs_D S X) (h6 : zs_6 S) : Met l yL_turnAt wsL_turnAt ({ frames := 7, cells := 5, slots := 40, locals := 103 } : Room) (za_PcA E b (ad, S, X, T, Y, ow, dw) [.ref (ad 0 0), .int p0, .ref (ad 33 0)]) (za_Qi E b (fun r u => zw_post ad S T Y dw (zo_t S (zs_ix p0)) (S) ((za_enc (S.2 5 8 (zs_ix p0))).toInt64) r u)) (5) (40) (za_A b) := by
  refine zw_met (ccm := cL_turnAt) (maxL := 4) (ret := (some .int)) (ws' := _) (own := RL) (lv := [(0, .ref (ad 0 0)), (1, .int p0), (2, .ref (ad 33 0))]) (by decide) rfl rfl rfl (by simp [lg_sl, Value.category]) ?_
  intro pg en s m below meth c hx hb hml hr hown hts hlocks htb hK hZ hAO hb0 hG hS ls hl
  skip
  refine lv_aload_n hx hb dL_turnAt_0 rfl (lv_at hl 2 rfl) ?_
  refine zb_iconst (n := 0) hx hb dL_turnAt_1 (by decide) ?_
  refine lv_aload_n hx hb dL_turnAt_2 rfl (lv_at hl 0 rfl) ?_
  refine lv_iload_n hx hb dL_turnAt_3 rfl (lv_at hl 1 rfl) ?_
  refine zc_xVi (As := [.int p0]) (rest := [.int (nI 0), .ref (ad 33 0)]) hK hZ hb0 hG hS hx hb hml hown hts (c_X6_turnAt l hl0 p0 hD.C) (cwV 1 hts gL_turnAt_X6_turnAt rfl rfl rfl (by decide +kernel) ⟨Nat.le_of_ble_eq_true rfl, Nat.le_of_ble_eq_true rfl⟩) (za_recv (q := (RX6, TX6, 11)) hK hG 0 0 ⟨by omega, rfl⟩ rfl rfl rfl) rfl hl rfl (Nat.le_of_ble_eq_true rfl) dL_turnAt_4 ⟨Nat.le_of_ble_eq_true rfl, Nat.le_of_ble_eq_true rfl⟩ (fun En ce q9 u_4 H locs hp hG hS g1 g2 g3 => ?_) (fun r_4 u_4 H locs hp hG hS => ?_)
  · obtain ⟨rfl, hco, rfl⟩ := hp
    refine vx_catch (E := "java/util/NoSuchElementException") (name := "java/util/NoSuchElementException") hown [] ⟨0, 9, 12, 21⟩ [] (by rw [htb]; rfl) (fun _ h => by cases h) rfl (by decide) (hts (.classLink RL 21 "java/util/NoSuchElementException") (by decide +kernel)) (va_Nw.use rfl (hZ.2.2.2.2.2.1 "java/util/NoSuchElementException" (by simp [za_exs]))) g1 g2 g3 ?_
    refine lv_astore_n (lv' := [(3, .ref q9), (0, .ref (ad 0 0)), (1, .int p0), (2, .ref (ad 33 0))]) hx hb dL_turnAt_12 rfl hl (by decide) rfl (fun ls hl => ?_)
    refine zb_iconst (n := 1) hx hb dL_turnAt_13 (by decide) ?_
    exact zm_iret hx hb hr hlocks hG hS (by omega) (by omega) (zw_no hco rfl hD h6) dL_turnAt_14
  · obtain ⟨hco, hre, rfl⟩ := hp
    refine lv_i2l hx hb dL_turnAt_7 rfl ?_
    refine zst_OL hx hb hK hG hS dL_turnAt_8 (fun H locs hG hS => ?_)
    refine zb_goto (tgt := 15) hx hb dL_turnAt_9 (by decide) ?_
    refine zb_iconst (n := 0) hx hb dL_turnAt_15 (by decide) ?_
    exact zm_iret hx hb hr hlocks hG hS (by omega) (by omega) (zw_ok hco rfl (by rw [hre]) (zk_sm.rf _) (hD) (h6)) dL_turnAt_16

set_option maxRecDepth 100000 in
set_option maxHeartbeats 4000000 in
theorem c_L_layer (l : Launch) (hl0 : l.stackTraces = false) {E : za_E} {b : Nat} {ad : za_Ad} {S X T Y : za_S} {ow : Int64} {dw : UInt64} (p0 p1 : Int32) (hD : zs_D S X) (h6 : zs_6 S) : Met l yL_layer wsL_layer ({ frames := 8, cells := 5, slots := 40, locals := 128 } : Room) (za_PcA E b (ad, S, X, T, Y, ow, dw) [.ref (ad 0 0), .int p0, .int p1, .ref (ad 33 0)]) (za_Qi E b (fun r u => zw_post ad S T Y dw (zo_pp S (zs_ix p0) (zs_ix p1)) (S) ((nI ((zs_ch S (zs_ix p0)).1 (zs_ix p1))).toInt64) r u)) (5) (40) (za_A b) := by
  refine zw_met (ccm := cL_layer) (maxL := 5) (ret := (some .int)) (ws' := _) (own := RL) (lv := [(0, .ref (ad 0 0)), (1, .int p0), (2, .int p1), (3, .ref (ad 33 0))]) (by decide) rfl rfl rfl (by simp [lg_sl, Value.category]) ?_
  intro pg en s m below meth c hx hb hml hr hown hts hlocks htb hK hZ hAO hb0 hG hS ls hl
  skip
  refine lv_aload_n hx hb dL_layer_0 rfl (lv_at hl 3 rfl) ?_
  refine zb_iconst (n := 0) hx hb dL_layer_1 (by decide) ?_
  refine lv_aload_n hx hb dL_layer_2 rfl (lv_at hl 0 rfl) ?_
  refine lv_iload_n hx hb dL_layer_3 rfl (lv_at hl 1 rfl) ?_
  refine lv_iload_n hx hb dL_layer_4 rfl (lv_at hl 2 rfl) ?_
  refine zc_xVi (As := [.int p0, .int p1]) (rest := [.int (nI 0), .ref (ad 33 0)]) hK hZ hb0 hG hS hx hb hml hown hts (c_X6_layer l hl0 p0 p1 hD.C) (cwV 2 hts gL_layer_X6_layer rfl rfl rfl (by decide +kernel) ⟨Nat.le_of_ble_eq_true rfl, Nat.le_of_ble_eq_true rfl⟩) (za_recv (q := (RX6, TX6, 11)) hK hG 0 0 ⟨by omega, rfl⟩ rfl rfl rfl) rfl hl rfl (Nat.le_of_ble_eq_true rfl) dL_layer_5 ⟨Nat.le_of_ble_eq_true rfl, Nat.le_of_ble_eq_true rfl⟩ (fun En ce q9 u_5 H locs hp hG hS g1 g2 g3 => ?_) (fun r_5 u_5 H locs hp hG hS => ?_)
  · obtain ⟨rfl, hco, rfl⟩ := hp
    refine vx_catch (E := "java/util/NoSuchElementException") (name := "java/util/NoSuchElementException") hown [] ⟨0, 10, 13, 21⟩ [] (by rw [htb]; rfl) (fun _ h => by cases h) rfl (by decide) (hts (.classLink RL 21 "java/util/NoSuchElementException") (by decide +kernel)) (va_Nw.use rfl (hZ.2.2.2.2.2.1 "java/util/NoSuchElementException" (by simp [za_exs]))) g1 g2 g3 ?_
    refine lv_astore (lv' := [(4, .ref q9), (0, .ref (ad 0 0)), (1, .int p0), (2, .int p1), (3, .ref (ad 33 0))]) hx hb dL_layer_13 hl (by decide) rfl (fun ls hl => ?_)
    refine zb_iconst (n := 1) hx hb dL_layer_15 (by decide) ?_
    exact zm_iret hx hb hr hlocks hG hS (by omega) (by omega) (zw_no hco rfl hD h6) dL_layer_16
  · obtain ⟨hco, hre, rfl⟩ := hp
    refine lv_i2l hx hb dL_layer_8 rfl ?_
    refine zst_OL hx hb hK hG hS dL_layer_9 (fun H locs hG hS => ?_)
    refine zb_goto (tgt := 17) hx hb dL_layer_10 (by decide) ?_
    refine zb_iconst (n := 0) hx hb dL_layer_17 (by decide) ?_
    exact zm_iret hx hb hr hlocks hG hS (by omega) (by omega) (zw_ok hco rfl (by rw [hre]) (zk_sm.rf _) (hD) (h6)) dL_layer_18

set_option maxRecDepth 100000 in
set_option maxHeartbeats 4000000 in
theorem c_L_used (l : Launch) (hl0 : l.stackTraces = false) {E : za_E} {b : Nat} {ad : za_Ad} {S X T Y : za_S} {ow : Int64} {dw : UInt64} (p0 : Int32) (hD : zs_D S X) (h6 : zs_6 S) : Met l yL_used wsL_used ({ frames := 8, cells := 5, slots := 40, locals := 125 } : Room) (za_PcA E b (ad, S, X, T, Y, ow, dw) [.ref (ad 0 0), .int p0, .ref (ad 33 0)]) (za_Qi E b (fun r u => zw_post ad S T Y dw (zo_p S (zs_ix p0)) (S) ((nI (zs_us S (zs_ix p0))).toInt64) r u)) (5) (40) (za_A b) := by
  refine zw_met (ccm := cL_used) (maxL := 4) (ret := (some .int)) (ws' := _) (own := RL) (lv := [(0, .ref (ad 0 0)), (1, .int p0), (2, .ref (ad 33 0))]) (by decide) rfl rfl rfl (by simp [lg_sl, Value.category]) ?_
  intro pg en s m below meth c hx hb hml hr hown hts hlocks htb hK hZ hAO hb0 hG hS ls hl
  skip
  refine lv_aload_n hx hb dL_used_0 rfl (lv_at hl 2 rfl) ?_
  refine zb_iconst (n := 0) hx hb dL_used_1 (by decide) ?_
  refine lv_aload_n hx hb dL_used_2 rfl (lv_at hl 0 rfl) ?_
  refine lv_iload_n hx hb dL_used_3 rfl (lv_at hl 1 rfl) ?_
  refine zc_xVi (As := [.int p0]) (rest := [.int (nI 0), .ref (ad 33 0)]) hK hZ hb0 hG hS hx hb hml hown hts (c_X6_used l hl0 p0 hD.C) (cwV 1 hts gL_used_X6_used rfl rfl rfl (by decide +kernel) ⟨Nat.le_of_ble_eq_true rfl, Nat.le_of_ble_eq_true rfl⟩) (za_recv (q := (RX6, TX6, 11)) hK hG 0 0 ⟨by omega, rfl⟩ rfl rfl rfl) rfl hl rfl (Nat.le_of_ble_eq_true rfl) dL_used_4 ⟨Nat.le_of_ble_eq_true rfl, Nat.le_of_ble_eq_true rfl⟩ (fun En ce q9 u_4 H locs hp hG hS g1 g2 g3 => ?_) (fun r_4 u_4 H locs hp hG hS => ?_)
  · obtain ⟨rfl, hco, rfl⟩ := hp
    refine vx_catch (E := "java/util/NoSuchElementException") (name := "java/util/NoSuchElementException") hown [] ⟨0, 9, 12, 21⟩ [] (by rw [htb]; rfl) (fun _ h => by cases h) rfl (by decide) (hts (.classLink RL 21 "java/util/NoSuchElementException") (by decide +kernel)) (va_Nw.use rfl (hZ.2.2.2.2.2.1 "java/util/NoSuchElementException" (by simp [za_exs]))) g1 g2 g3 ?_
    refine lv_astore_n (lv' := [(3, .ref q9), (0, .ref (ad 0 0)), (1, .int p0), (2, .ref (ad 33 0))]) hx hb dL_used_12 rfl hl (by decide) rfl (fun ls hl => ?_)
    refine zb_iconst (n := 1) hx hb dL_used_13 (by decide) ?_
    exact zm_iret hx hb hr hlocks hG hS (by omega) (by omega) (zw_no hco rfl hD h6) dL_used_14
  · obtain ⟨hco, hre, rfl⟩ := hp
    refine lv_i2l hx hb dL_used_7 rfl ?_
    refine zst_OL hx hb hK hG hS dL_used_8 (fun H locs hG hS => ?_)
    refine zb_goto (tgt := 15) hx hb dL_used_9 (by decide) ?_
    refine zb_iconst (n := 0) hx hb dL_used_15 (by decide) ?_
    exact zm_iret hx hb hr hlocks hG hS (by omega) (by omega) (zw_ok hco rfl (by rw [hre]) (zk_sm.rf _) (hD) (h6)) dL_used_16

set_option maxRecDepth 100000 in
set_option maxHeartbeats 4000000 in
theorem c_L_viewers (l : Launch) (hl0 : l.stackTraces = false) {E : za_E} {b : Nat} {ad : za_Ad} {S X T Y : za_S} {ow : Int64} {dw : UInt64} (p0 : Int32) (hD : zs_D S X) (h6 : zs_6 S) : Met l yL_viewers wsL_viewers ({ frames := 8, cells := 5, slots := 40, locals := 131 } : Room) (za_PcA E b (ad, S, X, T, Y, ow, dw) [.ref (ad 0 0), .int p0, .ref (ad 33 0)]) (za_Qi E b (fun r u => zw_post ad S T Y dw (zo_p S (zs_ix p0)) (S) ((nI (zs_vc S (zs_ix p0) 10)).toInt64) r u)) (5) (40) (za_A b) := by
  refine zw_met (ccm := cL_viewers) (maxL := 4) (ret := (some .int)) (ws' := _) (own := RL) (lv := [(0, .ref (ad 0 0)), (1, .int p0), (2, .ref (ad 33 0))]) (by decide) rfl rfl rfl (by simp [lg_sl, Value.category]) ?_
  intro pg en s m below meth c hx hb hml hr hown hts hlocks htb hK hZ hAO hb0 hG hS ls hl
  skip
  refine lv_aload_n hx hb dL_viewers_0 rfl (lv_at hl 2 rfl) ?_
  refine zb_iconst (n := 0) hx hb dL_viewers_1 (by decide) ?_
  refine lv_aload_n hx hb dL_viewers_2 rfl (lv_at hl 0 rfl) ?_
  refine lv_iload_n hx hb dL_viewers_3 rfl (lv_at hl 1 rfl) ?_
  refine zc_xVi (As := [.int p0]) (rest := [.int (nI 0), .ref (ad 33 0)]) hK hZ hb0 hG hS hx hb hml hown hts (c_X6_viewers l hl0 p0 hD.C) (cwV 1 hts gL_viewers_X6_viewers rfl rfl rfl (by decide +kernel) ⟨Nat.le_of_ble_eq_true rfl, Nat.le_of_ble_eq_true rfl⟩) (za_recv (q := (RX6, TX6, 11)) hK hG 0 0 ⟨by omega, rfl⟩ rfl rfl rfl) rfl hl rfl (Nat.le_of_ble_eq_true rfl) dL_viewers_4 ⟨Nat.le_of_ble_eq_true rfl, Nat.le_of_ble_eq_true rfl⟩ (fun En ce q9 u_4 H locs hp hG hS g1 g2 g3 => ?_) (fun r_4 u_4 H locs hp hG hS => ?_)
  · obtain ⟨rfl, hco, rfl⟩ := hp
    refine vx_catch (E := "java/util/NoSuchElementException") (name := "java/util/NoSuchElementException") hown [] ⟨0, 9, 12, 21⟩ [] (by rw [htb]; rfl) (fun _ h => by cases h) rfl (by decide) (hts (.classLink RL 21 "java/util/NoSuchElementException") (by decide +kernel)) (va_Nw.use rfl (hZ.2.2.2.2.2.1 "java/util/NoSuchElementException" (by simp [za_exs]))) g1 g2 g3 ?_
    refine lv_astore_n (lv' := [(3, .ref q9), (0, .ref (ad 0 0)), (1, .int p0), (2, .ref (ad 33 0))]) hx hb dL_viewers_12 rfl hl (by decide) rfl (fun ls hl => ?_)
    refine zb_iconst (n := 1) hx hb dL_viewers_13 (by decide) ?_
    exact zm_iret hx hb hr hlocks hG hS (by omega) (by omega) (zw_no hco rfl hD h6) dL_viewers_14
  · obtain ⟨hco, hre, rfl⟩ := hp
    refine lv_i2l hx hb dL_viewers_7 rfl ?_
    refine zst_OL hx hb hK hG hS dL_viewers_8 (fun H locs hG hS => ?_)
    refine zb_goto (tgt := 15) hx hb dL_viewers_9 (by decide) ?_
    refine zb_iconst (n := 0) hx hb dL_viewers_15 (by decide) ?_
    exact zm_iret hx hb hr hlocks hG hS (by omega) (by omega) (zw_ok hco rfl (by rw [hre]) (zk_sm.rf _) (hD) (h6)) dL_viewers_16

set_option maxRecDepth 100000 in
set_option maxHeartbeats 4000000 in
theorem c_L_follows (l : Launch) (hl0 : l.stackTraces = false) {E : za_E} {b : Nat} {ad : za_Ad} {S X T Y : za_S} {ow : Int64} {dw : UInt64} (p0 : Int32) (hD : zs_D S X) (h6 : zs_6 S) : Met l yL_follows wsL_follows ({ frames := 8, cells := 5, slots := 40, locals := 126 } : Room) (za_PcA E b (ad, S, X, T, Y, ow, dw) [.ref (ad 0 0), .int p0, .ref (ad 33 0)]) (za_Qi E b (fun r u => zw_post ad S T Y dw (zo_ks S (zs_ix p0)) (S) ((nI (S.1 9 (zs_ix p0) 0)).toInt64) r u)) (5) (40) (za_A b) := by
  refine zw_met (ccm := cL_follows) (maxL := 4) (ret := (some .int)) (ws' := _) (own := RL) (lv := [(0, .ref (ad 0 0)), (1, .int p0), (2, .ref (ad 33 0))]) (by decide) rfl rfl rfl (by simp [lg_sl, Value.category]) ?_
  intro pg en s m below meth c hx hb hml hr hown hts hlocks htb hK hZ hAO hb0 hG hS ls hl
  skip
  refine lv_aload_n hx hb dL_follows_0 rfl (lv_at hl 2 rfl) ?_
  refine zb_iconst (n := 0) hx hb dL_follows_1 (by decide) ?_
  refine lv_aload_n hx hb dL_follows_2 rfl (lv_at hl 0 rfl) ?_
  refine lv_iload_n hx hb dL_follows_3 rfl (lv_at hl 1 rfl) ?_
  refine zc_xVi (As := [.int p0]) (rest := [.int (nI 0), .ref (ad 33 0)]) hK hZ hb0 hG hS hx hb hml hown hts (c_X6_follows l hl0 p0 hD.C) (cwV 1 hts gL_follows_X6_follows rfl rfl rfl (by decide +kernel) ⟨Nat.le_of_ble_eq_true rfl, Nat.le_of_ble_eq_true rfl⟩) (za_recv (q := (RX6, TX6, 11)) hK hG 0 0 ⟨by omega, rfl⟩ rfl rfl rfl) rfl hl rfl (Nat.le_of_ble_eq_true rfl) dL_follows_4 ⟨Nat.le_of_ble_eq_true rfl, Nat.le_of_ble_eq_true rfl⟩ (fun En ce q9 u_4 H locs hp hG hS g1 g2 g3 => ?_) (fun r_4 u_4 H locs hp hG hS => ?_)
  · rcases hp with ⟨rfl, hco, rfl⟩ | ⟨rfl, hco, rfl⟩
    · refine vx_catch (E := "java/util/NoSuchElementException") (name := "java/util/NoSuchElementException") hown [] ⟨0, 9, 12, 21⟩ [⟨0, 9, 15, 15⟩] (by rw [htb]; rfl) (fun _ h => by cases h) rfl (by decide) (hts (.classLink RL 21 "java/util/NoSuchElementException") (by decide +kernel)) (va_Nw.use rfl (hZ.2.2.2.2.2.1 "java/util/NoSuchElementException" (by simp [za_exs]))) g1 g2 g3 ?_
      refine lv_astore_n (lv' := [(3, .ref q9), (0, .ref (ad 0 0)), (1, .int p0), (2, .ref (ad 33 0))]) hx hb dL_follows_12 rfl hl (by decide) rfl (fun ls hl => ?_)
      refine zb_iconst (n := 1) hx hb dL_follows_13 (by decide) ?_
      exact zm_iret hx hb hr hlocks hG hS (by omega) (by omega) (zw_no hco rfl hD h6) dL_follows_14
    · refine vx_catch (E := "java/lang/IllegalStateException") (name := "java/lang/IllegalStateException") hown [⟨0, 9, 12, 21⟩] ⟨0, 9, 15, 15⟩ [] (by rw [htb]; rfl) (List.forall_mem_cons.mpr ⟨Or.inr ⟨by decide, "java/util/NoSuchElementException", hts (.classLink RL 21 "java/util/NoSuchElementException") (by decide +kernel), hZ.2.2.2.2.2.2.1 "java/lang/IllegalStateException" (by simp [za_exs]) "java/util/NoSuchElementException" (by simp [za_exs]) (by decide)⟩, (fun _ h => by cases h)⟩) rfl (by decide) (hts (.classLink RL 15 "java/lang/IllegalStateException") (by decide +kernel)) (va_Nw.use rfl (hZ.2.2.2.2.2.1 "java/lang/IllegalStateException" (by simp [za_exs]))) g1 g2 g3 ?_
      refine lv_astore_n (lv' := [(3, .ref q9), (0, .ref (ad 0 0)), (1, .int p0), (2, .ref (ad 33 0))]) hx hb dL_follows_15 rfl hl (by decide) rfl (fun ls hl => ?_)
      refine zb_iconst (n := 2) hx hb dL_follows_16 (by decide) ?_
      exact zm_iret hx hb hr hlocks hG hS (by omega) (by omega) (zw_no hco rfl hD h6) dL_follows_17
  · obtain ⟨hco, hre, rfl⟩ := hp
    refine lv_i2l hx hb dL_follows_7 rfl ?_
    refine zst_OL hx hb hK hG hS dL_follows_8 (fun H locs hG hS => ?_)
    refine zb_goto (tgt := 18) hx hb dL_follows_9 (by decide) ?_
    refine zb_iconst (n := 0) hx hb dL_follows_18 (by decide) ?_
    exact zm_iret hx hb hr hlocks hG hS (by omega) (by omega) (zw_ok hco rfl (by rw [hre]) (zk_sm.rf _) (hD) (h6)) dL_follows_19

set_option maxRecDepth 100000 in
set_option maxHeartbeats 4000000 in
theorem c_L_noteAt (l : Launch) (hl0 : l.stackTraces = false) {E : za_E} {b : Nat} {ad : za_Ad} {S X T Y : za_S} {ow : Int64} {dw : UInt64} (p0 p1 : Int32) (hD : zs_D S X) (h6 : zs_6 S) : Met l yL_noteAt wsL_noteAt ({ frames := 8, cells := 5, slots := 40, locals := 127 } : Room) (za_PcA E b (ad, S, X, T, Y, ow, dw) [.ref (ad 0 0), .int p0, .int p1, .ref (ad 33 0)]) (za_Qi E b (fun r u => zw_post ad S T Y dw (zo_kn S (zs_ix p0) (zs_ix p1)) (S) ((za_enc (S.2 5 (zs_ix p0) (zs_ix p1))).toInt64) r u)) (5) (40) (za_A b) := by
  refine zw_met (ccm := cL_noteAt) (maxL := 5) (ret := (some .int)) (ws' := _) (own := RL) (lv := [(0, .ref (ad 0 0)), (1, .int p0), (2, .int p1), (3, .ref (ad 33 0))]) (by decide) rfl rfl rfl (by simp [lg_sl, Value.category]) ?_
  intro pg en s m below meth c hx hb hml hr hown hts hlocks htb hK hZ hAO hb0 hG hS ls hl
  skip
  refine lv_aload_n hx hb dL_noteAt_0 rfl (lv_at hl 3 rfl) ?_
  refine zb_iconst (n := 0) hx hb dL_noteAt_1 (by decide) ?_
  refine lv_aload_n hx hb dL_noteAt_2 rfl (lv_at hl 0 rfl) ?_
  refine lv_iload_n hx hb dL_noteAt_3 rfl (lv_at hl 1 rfl) ?_
  refine lv_iload_n hx hb dL_noteAt_4 rfl (lv_at hl 2 rfl) ?_
  refine zc_xVi (As := [.int p0, .int p1]) (rest := [.int (nI 0), .ref (ad 33 0)]) hK hZ hb0 hG hS hx hb hml hown hts (c_X6_noteAt l hl0 p0 p1 hD.C) (cwV 2 hts gL_noteAt_X6_noteAt rfl rfl rfl (by decide +kernel) ⟨Nat.le_of_ble_eq_true rfl, Nat.le_of_ble_eq_true rfl⟩) (za_recv (q := (RX6, TX6, 11)) hK hG 0 0 ⟨by omega, rfl⟩ rfl rfl rfl) rfl hl rfl (Nat.le_of_ble_eq_true rfl) dL_noteAt_5 ⟨Nat.le_of_ble_eq_true rfl, Nat.le_of_ble_eq_true rfl⟩ (fun En ce q9 u_5 H locs hp hG hS g1 g2 g3 => ?_) (fun r_5 u_5 H locs hp hG hS => ?_)
  · rcases hp with ⟨rfl, hco, rfl⟩ | ⟨rfl, hco, rfl⟩
    · refine vx_catch (E := "java/util/NoSuchElementException") (name := "java/util/NoSuchElementException") hown [] ⟨0, 10, 13, 21⟩ [⟨0, 10, 17, 36⟩] (by rw [htb]; rfl) (fun _ h => by cases h) rfl (by decide) (hts (.classLink RL 21 "java/util/NoSuchElementException") (by decide +kernel)) (va_Nw.use rfl (hZ.2.2.2.2.2.1 "java/util/NoSuchElementException" (by simp [za_exs]))) g1 g2 g3 ?_
      refine lv_astore (lv' := [(4, .ref q9), (0, .ref (ad 0 0)), (1, .int p0), (2, .int p1), (3, .ref (ad 33 0))]) hx hb dL_noteAt_13 hl (by decide) rfl (fun ls hl => ?_)
      refine zb_iconst (n := 1) hx hb dL_noteAt_15 (by decide) ?_
      exact zm_iret hx hb hr hlocks hG hS (by omega) (by omega) (zw_no hco rfl hD h6) dL_noteAt_16
    · refine vx_catch (E := "java/lang/IndexOutOfBoundsException") (name := "java/lang/IndexOutOfBoundsException") hown [⟨0, 10, 13, 21⟩] ⟨0, 10, 17, 36⟩ [] (by rw [htb]; rfl) (List.forall_mem_cons.mpr ⟨Or.inr ⟨by decide, "java/util/NoSuchElementException", hts (.classLink RL 21 "java/util/NoSuchElementException") (by decide +kernel), hZ.2.2.2.2.2.2.1 "java/lang/IndexOutOfBoundsException" (by simp [za_exs]) "java/util/NoSuchElementException" (by simp [za_exs]) (by decide)⟩, (fun _ h => by cases h)⟩) rfl (by decide) (hts (.classLink RL 36 "java/lang/IndexOutOfBoundsException") (by decide +kernel)) (va_Nw.use rfl (hZ.2.2.2.2.2.1 "java/lang/IndexOutOfBoundsException" (by simp [za_exs]))) g1 g2 g3 ?_
      refine lv_astore (lv' := [(4, .ref q9), (0, .ref (ad 0 0)), (1, .int p0), (2, .int p1), (3, .ref (ad 33 0))]) hx hb dL_noteAt_17 hl (by decide) rfl (fun ls hl => ?_)
      refine zb_iconst (n := 2) hx hb dL_noteAt_19 (by decide) ?_
      exact zm_iret hx hb hr hlocks hG hS (by omega) (by omega) (zw_no hco rfl hD h6) dL_noteAt_20
  · obtain ⟨hco, hre, rfl⟩ := hp
    refine lv_i2l hx hb dL_noteAt_8 rfl ?_
    refine zst_OL hx hb hK hG hS dL_noteAt_9 (fun H locs hG hS => ?_)
    refine zb_goto (tgt := 21) hx hb dL_noteAt_10 (by decide) ?_
    refine zb_iconst (n := 0) hx hb dL_noteAt_21 (by decide) ?_
    exact zm_iret hx hb hr hlocks hG hS (by omega) (by omega) (zw_ok hco rfl (by rw [hre]) (zk_sm.rf _) (hD) (h6)) dL_noteAt_22

set_option maxRecDepth 100000 in
set_option maxHeartbeats 4000000 in
theorem c_L_stateOf (l : Launch) (hl0 : l.stackTraces = false) {E : za_E} {b : Nat} {ad : za_Ad} {S X T Y : za_S} {ow : Int64} {dw : UInt64} (p0 : Int32) (hD : zs_D S X) (h6 : zs_6 S) : Met l yL_stateOf wsL_stateOf ({ frames := 8, cells := 5, slots := 40, locals := 125 } : Room) (za_PcA E b (ad, S, X, T, Y, ow, dw) [.ref (ad 0 0), .int p0, .ref (ad 33 0)]) (za_Qi E b (fun r u => zw_post ad S T Y dw (zo_k S (zs_ix p0)) (S) ((nI (if S.1 8 (zs_ix p0) 0 = 0 then 114 else 115)).toInt64) r u)) (5) (40) (za_A b) := by
  refine zw_met (ccm := cL_stateOf) (maxL := 4) (ret := (some .int)) (ws' := _) (own := RL) (lv := [(0, .ref (ad 0 0)), (1, .int p0), (2, .ref (ad 33 0))]) (by decide) rfl rfl rfl (by simp [lg_sl, Value.category]) ?_
  intro pg en s m below meth c hx hb hml hr hown hts hlocks htb hK hZ hAO hb0 hG hS ls hl
  skip
  refine lv_aload_n hx hb dL_stateOf_0 rfl (lv_at hl 2 rfl) ?_
  refine zb_iconst (n := 0) hx hb dL_stateOf_1 (by decide) ?_
  refine lv_aload_n hx hb dL_stateOf_2 rfl (lv_at hl 0 rfl) ?_
  refine lv_iload_n hx hb dL_stateOf_3 rfl (lv_at hl 1 rfl) ?_
  refine zc_xVi (As := [.int p0]) (rest := [.int (nI 0), .ref (ad 33 0)]) hK hZ hb0 hG hS hx hb hml hown hts (c_X6_stateOf l hl0 p0 hD.C) (cwV 1 hts gL_stateOf_X6_stateOf rfl rfl rfl (by decide +kernel) ⟨Nat.le_of_ble_eq_true rfl, Nat.le_of_ble_eq_true rfl⟩) (za_recv (q := (RX6, TX6, 11)) hK hG 0 0 ⟨by omega, rfl⟩ rfl rfl rfl) rfl hl rfl (Nat.le_of_ble_eq_true rfl) dL_stateOf_4 ⟨Nat.le_of_ble_eq_true rfl, Nat.le_of_ble_eq_true rfl⟩ (fun En ce q9 u_4 H locs hp hG hS g1 g2 g3 => ?_) (fun r_4 u_4 H locs hp hG hS => ?_)
  · obtain ⟨rfl, hco, rfl⟩ := hp
    refine vx_catch (E := "java/util/NoSuchElementException") (name := "java/util/NoSuchElementException") hown [] ⟨0, 9, 12, 21⟩ [] (by rw [htb]; rfl) (fun _ h => by cases h) rfl (by decide) (hts (.classLink RL 21 "java/util/NoSuchElementException") (by decide +kernel)) (va_Nw.use rfl (hZ.2.2.2.2.2.1 "java/util/NoSuchElementException" (by simp [za_exs]))) g1 g2 g3 ?_
    refine lv_astore_n (lv' := [(3, .ref q9), (0, .ref (ad 0 0)), (1, .int p0), (2, .ref (ad 33 0))]) hx hb dL_stateOf_12 rfl hl (by decide) rfl (fun ls hl => ?_)
    refine zb_iconst (n := 1) hx hb dL_stateOf_13 (by decide) ?_
    exact zm_iret hx hb hr hlocks hG hS (by omega) (by omega) (zw_no hco rfl hD h6) dL_stateOf_14
  · obtain ⟨hco, hre, rfl⟩ := hp
    refine lv_i2l hx hb dL_stateOf_7 rfl ?_
    refine zst_OL hx hb hK hG hS dL_stateOf_8 (fun H locs hG hS => ?_)
    refine zb_goto (tgt := 15) hx hb dL_stateOf_9 (by decide) ?_
    refine zb_iconst (n := 0) hx hb dL_stateOf_15 (by decide) ?_
    exact zm_iret hx hb hr hlocks hG hS (by omega) (by omega) (zw_ok hco rfl (by rw [hre]) (zk_sm.rf _) (hD) (h6)) dL_stateOf_16

set_option maxRecDepth 100000 in
set_option maxHeartbeats 4000000 in
theorem c_L_layerAnew (l : Launch) (hl0 : l.stackTraces = false) {E : za_E} {b : Nat} {ad : za_Ad} {S X T Y : za_S} {ow : Int64} {dw : UInt64} (p0 p1 : Int32) (hD : zs_D S X) (h6 : zs_6 S) : Met l yL_layerAnew wsL_layerAnew ({ frames := 8, cells := 5, slots := 40, locals := 128 } : Room) (za_PcA E b (ad, S, X, T, Y, ow, dw) [.ref (ad 0 0), .int p0, .int p1, .ref (ad 33 0)]) (za_Qi E b (fun r u => zw_post ad S T Y dw (zo_pp S (zs_ix p0) (zs_ix p1)) (S) ((nI ((zs_ch S (zs_ix p0)).1 (zs_ix p1))).toInt64) r u)) (5) (40) (za_A b) := by
  refine zw_met (ccm := cL_layerAnew) (maxL := 5) (ret := (some .int)) (ws' := _) (own := RL) (lv := [(0, .ref (ad 0 0)), (1, .int p0), (2, .int p1), (3, .ref (ad 33 0))]) (by decide) rfl rfl rfl (by simp [lg_sl, Value.category]) ?_
  intro pg en s m below meth c hx hb hml hr hown hts hlocks htb hK hZ hAO hb0 hG hS ls hl
  skip
  refine lv_aload_n hx hb dL_layerAnew_0 rfl (lv_at hl 3 rfl) ?_
  refine zb_iconst (n := 0) hx hb dL_layerAnew_1 (by decide) ?_
  refine lv_aload_n hx hb dL_layerAnew_2 rfl (lv_at hl 0 rfl) ?_
  refine lv_iload_n hx hb dL_layerAnew_3 rfl (lv_at hl 1 rfl) ?_
  refine lv_iload_n hx hb dL_layerAnew_4 rfl (lv_at hl 2 rfl) ?_
  refine zc_xVi (As := [.int p0, .int p1]) (rest := [.int (nI 0), .ref (ad 33 0)]) hK hZ hb0 hG hS hx hb hml hown hts (c_X6_layerAnew l hl0 p0 p1 hD.C) (cwV 2 hts gL_layerAnew_X6_layerAnew rfl rfl rfl (by decide +kernel) ⟨Nat.le_of_ble_eq_true rfl, Nat.le_of_ble_eq_true rfl⟩) (za_recv (q := (RX6, TX6, 11)) hK hG 0 0 ⟨by omega, rfl⟩ rfl rfl rfl) rfl hl rfl (Nat.le_of_ble_eq_true rfl) dL_layerAnew_5 ⟨Nat.le_of_ble_eq_true rfl, Nat.le_of_ble_eq_true rfl⟩ (fun En ce q9 u_5 H locs hp hG hS g1 g2 g3 => ?_) (fun r_5 u_5 H locs hp hG hS => ?_)
  · obtain ⟨rfl, hco, rfl⟩ := hp
    refine vx_catch (E := "java/util/NoSuchElementException") (name := "java/util/NoSuchElementException") hown [] ⟨0, 10, 13, 21⟩ [] (by rw [htb]; rfl) (fun _ h => by cases h) rfl (by decide) (hts (.classLink RL 21 "java/util/NoSuchElementException") (by decide +kernel)) (va_Nw.use rfl (hZ.2.2.2.2.2.1 "java/util/NoSuchElementException" (by simp [za_exs]))) g1 g2 g3 ?_
    refine lv_astore (lv' := [(4, .ref q9), (0, .ref (ad 0 0)), (1, .int p0), (2, .int p1), (3, .ref (ad 33 0))]) hx hb dL_layerAnew_13 hl (by decide) rfl (fun ls hl => ?_)
    refine zb_iconst (n := 1) hx hb dL_layerAnew_15 (by decide) ?_
    exact zm_iret hx hb hr hlocks hG hS (by omega) (by omega) (zw_no hco rfl hD h6) dL_layerAnew_16
  · obtain ⟨hco, hre, X2, rfl, q1, q2⟩ := hp
    refine lv_i2l hx hb dL_layerAnew_8 rfl ?_
    refine zst_OL hx hb hK hG hS dL_layerAnew_9 (fun H locs hG hS => ?_)
    refine zb_goto (tgt := 17) hx hb dL_layerAnew_10 (by decide) ?_
    refine zb_iconst (n := 0) hx hb dL_layerAnew_17 (by decide) ?_
    exact zm_iret hx hb hr hlocks hG hS (by omega) (by omega) (zw_ok hco rfl (by rw [hre]) (zk_sm.rf _) (zw_fr hD q1 q2) (h6)) dL_layerAnew_18

set_option maxRecDepth 100000 in
set_option maxHeartbeats 4000000 in
theorem c_L_stop (l : Launch) (hl0 : l.stackTraces = false) {E : za_E} {b : Nat} {ad : za_Ad} {S X T Y : za_S} {ow : Int64} {dw : UInt64} (p0 : Int32) (hD : zs_D S X) (h6 : zs_6 S) : Met l yL_stop wsL_stop ({ frames := 8, cells := 5, slots := 40, locals := 126 } : Room) (za_PcA E b (ad, S, X, T, Y, ow, dw) [.ref (ad 0 0), .int p0, .ref (ad 33 0)]) (za_Qi E b (fun r u => zw_post ad S T Y dw (zo_ks S (zs_ix p0)) (za_N S 8 (zs_ix p0) 0 1) ((nI (S.1 7 (zs_ix p0) 0)).toInt64) r u)) (5) (40) (za_A b) := by
  refine zw_met (ccm := cL_stop) (maxL := 4) (ret := (some .int)) (ws' := _) (own := RL) (lv := [(0, .ref (ad 0 0)), (1, .int p0), (2, .ref (ad 33 0))]) (by decide) rfl rfl rfl (by simp [lg_sl, Value.category]) ?_
  intro pg en s m below meth c hx hb hml hr hown hts hlocks htb hK hZ hAO hb0 hG hS ls hl
  skip
  refine lv_aload_n hx hb dL_stop_0 rfl (lv_at hl 2 rfl) ?_
  refine zb_iconst (n := 0) hx hb dL_stop_1 (by decide) ?_
  refine lv_aload_n hx hb dL_stop_2 rfl (lv_at hl 0 rfl) ?_
  refine lv_iload_n hx hb dL_stop_3 rfl (lv_at hl 1 rfl) ?_
  refine zc_xVi (As := [.int p0]) (rest := [.int (nI 0), .ref (ad 33 0)]) hK hZ hb0 hG hS hx hb hml hown hts (c_X6_stop l hl0 p0 hD.C) (cwV 1 hts gL_stop_X6_stop rfl rfl rfl (by decide +kernel) ⟨Nat.le_of_ble_eq_true rfl, Nat.le_of_ble_eq_true rfl⟩) (za_recv (q := (RX6, TX6, 11)) hK hG 0 0 ⟨by omega, rfl⟩ rfl rfl rfl) rfl hl rfl (Nat.le_of_ble_eq_true rfl) dL_stop_4 ⟨Nat.le_of_ble_eq_true rfl, Nat.le_of_ble_eq_true rfl⟩ (fun En ce q9 u_4 H locs hp hG hS g1 g2 g3 => ?_) (fun r_4 u_4 H locs hp hG hS => ?_)
  · rcases hp with ⟨rfl, hco, rfl⟩ | ⟨rfl, hco, rfl⟩
    · refine vx_catch (E := "java/util/NoSuchElementException") (name := "java/util/NoSuchElementException") hown [] ⟨0, 9, 12, 21⟩ [⟨0, 9, 15, 15⟩] (by rw [htb]; rfl) (fun _ h => by cases h) rfl (by decide) (hts (.classLink RL 21 "java/util/NoSuchElementException") (by decide +kernel)) (va_Nw.use rfl (hZ.2.2.2.2.2.1 "java/util/NoSuchElementException" (by simp [za_exs]))) g1 g2 g3 ?_
      refine lv_astore_n (lv' := [(3, .ref q9), (0, .ref (ad 0 0)), (1, .int p0), (2, .ref (ad 33 0))]) hx hb dL_stop_12 rfl hl (by decide) rfl (fun ls hl => ?_)
      refine zb_iconst (n := 1) hx hb dL_stop_13 (by decide) ?_
      exact zm_iret hx hb hr hlocks hG hS (by omega) (by omega) (zw_no hco rfl hD h6) dL_stop_14
    · refine vx_catch (E := "java/lang/IllegalStateException") (name := "java/lang/IllegalStateException") hown [⟨0, 9, 12, 21⟩] ⟨0, 9, 15, 15⟩ [] (by rw [htb]; rfl) (List.forall_mem_cons.mpr ⟨Or.inr ⟨by decide, "java/util/NoSuchElementException", hts (.classLink RL 21 "java/util/NoSuchElementException") (by decide +kernel), hZ.2.2.2.2.2.2.1 "java/lang/IllegalStateException" (by simp [za_exs]) "java/util/NoSuchElementException" (by simp [za_exs]) (by decide)⟩, (fun _ h => by cases h)⟩) rfl (by decide) (hts (.classLink RL 15 "java/lang/IllegalStateException") (by decide +kernel)) (va_Nw.use rfl (hZ.2.2.2.2.2.1 "java/lang/IllegalStateException" (by simp [za_exs]))) g1 g2 g3 ?_
      refine lv_astore_n (lv' := [(3, .ref q9), (0, .ref (ad 0 0)), (1, .int p0), (2, .ref (ad 33 0))]) hx hb dL_stop_15 rfl hl (by decide) rfl (fun ls hl => ?_)
      refine zb_iconst (n := 2) hx hb dL_stop_16 (by decide) ?_
      exact zm_iret hx hb hr hlocks hG hS (by omega) (by omega) (zw_no hco rfl hD h6) dL_stop_17
  · obtain ⟨hco, hre, rfl⟩ := hp
    refine lv_i2l hx hb dL_stop_7 rfl ?_
    refine zst_OL hx hb hK hG hS dL_stop_8 (fun H locs hG hS => ?_)
    refine zb_goto (tgt := 18) hx hb dL_stop_9 (by decide) ?_
    refine zb_iconst (n := 0) hx hb dL_stop_18 (by decide) ?_
    exact zm_iret hx hb hr hlocks hG hS (by omega) (by omega) (zw_ok hco rfl (by rw [hre]) (zk_sm.rf _) (zw_stop hD (zq_ks hco).1) (zs_6_N h6 (by decide))) dL_stop_19

set_option maxRecDepth 100000 in
set_option maxHeartbeats 4000000 in
theorem c_L_record (l : Launch) (hl0 : l.stackTraces = false) {E : za_E} {b : Nat} {ad : za_Ad} {S X T Y : za_S} {ow : Int64} {dw : UInt64} (p0 : Int32) (hD : zs_D S X) (h6 : zs_6 S) : Met l yL_record wsL_record ({ frames := 8, cells := 5, slots := 40, locals := 127 } : Room) (za_PcA E b (ad, S, X, T, Y, ow, dw) [.ref (ad 0 0), .int p0, .ref (ad 33 0)]) (za_Qi E b (fun r u => zw_post ad S T Y dw (zo_rec S (zs_ix p0)) (zs_nk S (zs_ix p0)) ((nI (S.1 0 2 0)).toInt64) r u)) (5) (40) (za_A b) := by
  refine zw_met (ccm := cL_record) (maxL := 4) (ret := (some .int)) (ws' := _) (own := RL) (lv := [(0, .ref (ad 0 0)), (1, .int p0), (2, .ref (ad 33 0))]) (by decide) rfl rfl rfl (by simp [lg_sl, Value.category]) ?_
  intro pg en s m below meth c hx hb hml hr hown hts hlocks htb hK hZ hAO hb0 hG hS ls hl
  skip
  refine lv_aload_n hx hb dL_record_0 rfl (lv_at hl 2 rfl) ?_
  refine zb_iconst (n := 0) hx hb dL_record_1 (by decide) ?_
  refine lv_aload_n hx hb dL_record_2 rfl (lv_at hl 0 rfl) ?_
  refine lv_iload_n hx hb dL_record_3 rfl (lv_at hl 1 rfl) ?_
  refine zc_xVi (As := [.int p0]) (rest := [.int (nI 0), .ref (ad 33 0)]) hK hZ hb0 hG hS hx hb hml hown hts (c_X6_record l hl0 p0 hD) (cwV 1 hts gL_record_X6_record rfl rfl rfl (by decide +kernel) ⟨Nat.le_of_ble_eq_true rfl, Nat.le_of_ble_eq_true rfl⟩) (za_recv (q := (RX6, TX6, 11)) hK hG 0 0 ⟨by omega, rfl⟩ rfl rfl rfl) rfl hl rfl (Nat.le_of_ble_eq_true rfl) dL_record_4 ⟨Nat.le_of_ble_eq_true rfl, Nat.le_of_ble_eq_true rfl⟩ (fun En ce q9 u_4 H locs hp hG hS g1 g2 g3 => ?_) (fun r_4 u_4 H locs hp hG hS => ?_)
  · rcases hp with ⟨rfl, hco, rfl⟩ | ⟨rfl, hco, rfl⟩
    · refine vx_catch (E := "java/lang/IndexOutOfBoundsException") (name := "java/lang/IndexOutOfBoundsException") hown [] ⟨0, 9, 12, 36⟩ [⟨0, 9, 15, 15⟩] (by rw [htb]; rfl) (fun _ h => by cases h) rfl (by decide) (hts (.classLink RL 36 "java/lang/IndexOutOfBoundsException") (by decide +kernel)) (va_Nw.use rfl (hZ.2.2.2.2.2.1 "java/lang/IndexOutOfBoundsException" (by simp [za_exs]))) g1 g2 g3 ?_
      refine lv_astore_n (lv' := [(3, .ref q9), (0, .ref (ad 0 0)), (1, .int p0), (2, .ref (ad 33 0))]) hx hb dL_record_12 rfl hl (by decide) rfl (fun ls hl => ?_)
      refine zb_iconst (n := 1) hx hb dL_record_13 (by decide) ?_
      exact zm_iret hx hb hr hlocks hG hS (by omega) (by omega) (zw_no hco rfl hD h6) dL_record_14
    · refine vx_catch (E := "java/lang/IllegalStateException") (name := "java/lang/IllegalStateException") hown [⟨0, 9, 12, 36⟩] ⟨0, 9, 15, 15⟩ [] (by rw [htb]; rfl) (List.forall_mem_cons.mpr ⟨Or.inr ⟨by decide, "java/lang/IndexOutOfBoundsException", hts (.classLink RL 36 "java/lang/IndexOutOfBoundsException") (by decide +kernel), hZ.2.2.2.2.2.2.1 "java/lang/IllegalStateException" (by simp [za_exs]) "java/lang/IndexOutOfBoundsException" (by simp [za_exs]) (by decide)⟩, (fun _ h => by cases h)⟩) rfl (by decide) (hts (.classLink RL 15 "java/lang/IllegalStateException") (by decide +kernel)) (va_Nw.use rfl (hZ.2.2.2.2.2.1 "java/lang/IllegalStateException" (by simp [za_exs]))) g1 g2 g3 ?_
      refine lv_astore_n (lv' := [(3, .ref q9), (0, .ref (ad 0 0)), (1, .int p0), (2, .ref (ad 33 0))]) hx hb dL_record_15 rfl hl (by decide) rfl (fun ls hl => ?_)
      refine zb_iconst (n := 2) hx hb dL_record_16 (by decide) ?_
      exact zm_iret hx hb hr hlocks hG hS (by omega) (by omega) (zw_no hco rfl hD h6) dL_record_17
  · obtain ⟨hco, hre, ad2, X2, rfl, hD2, hsm⟩ := hp
    rw [← hsm 0 (by omega), ← hsm 33 (by omega)] at hl
    refine W.eq (g2 := F0 m 7 ls [.int r_4, .int (nI 0), .ref (ad2 33 0)]) (by rw [hsm 33 (by omega)]) ?_
    refine lv_i2l hx hb dL_record_7 rfl ?_
    refine zst_OL hx hb hK hG hS dL_record_8 (fun H locs hG hS => ?_)
    refine zb_goto (tgt := 18) hx hb dL_record_9 (by decide) ?_
    refine zb_iconst (n := 0) hx hb dL_record_18 (by decide) ?_
    exact zm_iret hx hb hr hlocks hG hS (by omega) (by omega) (zw_ok hco rfl (by rw [hre]) hsm (hD2) (zs_nk_6 h6 _)) dL_record_19

set_option maxRecDepth 100000 in
set_option maxHeartbeats 4000000 in
theorem c_L_pass (l : Launch) (hl0 : l.stackTraces = false) {E : za_E} {b : Nat} {ad : za_Ad} {S X T Y : za_S} {ow : Int64} {dw : UInt64} (p0 : Int32) (hD : zs_D S X) (h6 : zs_6 S) : Met l yL_pass wsL_pass ({ frames := 7, cells := 5 + (zs_ce (zs_pass S (zs_ix p0)) - zs_ce S), slots := 40 + (zs_sl (zs_pass S (zs_ix p0)) - zs_sl S), locals := 176 } : Room) (za_PcA E b (ad, S, X, T, Y, ow, dw) [.ref (ad 0 0), .int p0, .ref (ad 33 0)]) (za_Qi E b (fun r u => zw_post ad S T Y dw (zo_pass S (zs_ix p0)) (zs_pass S (zs_ix p0)) ((nI ((zs_pass S (zs_ix p0)).1 7 8 0 - S.1 7 8 0)).toInt64) r u)) (5 + (zs_ce (zs_pass S (zs_ix p0)) - zs_ce S)) (40 + (zs_sl (zs_pass S (zs_ix p0)) - zs_sl S)) (za_A b) := by
  refine zw_met (ccm := cL_pass) (maxL := 4) (ret := (some .int)) (ws' := _) (own := RL) (lv := [(0, .ref (ad 0 0)), (1, .int p0), (2, .ref (ad 33 0))]) (by decide) rfl rfl rfl (by simp [lg_sl, Value.category]) ?_
  intro pg en s m below meth c hx hb hml hr hown hts hlocks htb hK hZ hAO hb0 hG hS ls hl
  skip
  refine lv_aload_n hx hb dL_pass_0 rfl (lv_at hl 2 rfl) ?_
  refine zb_iconst (n := 0) hx hb dL_pass_1 (by decide) ?_
  refine lv_aload_n hx hb dL_pass_2 rfl (lv_at hl 0 rfl) ?_
  refine lv_iload_n hx hb dL_pass_3 rfl (lv_at hl 1 rfl) ?_
  refine zc_xVi (As := [.int p0]) (rest := [.int (nI 0), .ref (ad 33 0)]) hK hZ hb0 hG hS hx hb hml hown hts (c_X6_pass l hl0 p0 hD) (cwV 1 hts gL_pass_X6_pass rfl rfl rfl (by decide +kernel) ⟨Nat.le_of_ble_eq_true rfl, Nat.le_of_ble_eq_true rfl⟩) (za_recv (q := (RX6, TX6, 11)) hK hG 0 0 ⟨by omega, rfl⟩ rfl rfl rfl) rfl hl rfl (Nat.le_of_ble_eq_true rfl) dL_pass_4 ⟨by show 0 + (3 + _) ≤ 5 + _; omega, by show 0 + (18 + _) ≤ 40 + _; omega⟩ (fun En ce q9 u_4 H locs hp hG hS g1 g2 g3 => ?_) (fun r_4 u_4 H locs hp hG hS => ?_)
  · rcases hp with ⟨rfl, hco, rfl⟩ | ⟨rfl, hco, rfl⟩
    · refine vx_catch (E := "java/lang/IllegalArgumentException") (name := "java/lang/IllegalArgumentException") hown [] ⟨0, 9, 12, 13⟩ [⟨0, 9, 15, 15⟩] (by rw [htb]; rfl) (fun _ h => by cases h) rfl (by decide) (hts (.classLink RL 13 "java/lang/IllegalArgumentException") (by decide +kernel)) (va_Nw.use rfl (hZ.2.2.2.2.2.1 "java/lang/IllegalArgumentException" (by simp [za_exs]))) g1 g2 g3 ?_
      refine lv_astore_n (lv' := [(3, .ref q9), (0, .ref (ad 0 0)), (1, .int p0), (2, .ref (ad 33 0))]) hx hb dL_pass_12 rfl hl (by decide) rfl (fun ls hl => ?_)
      refine zb_iconst (n := 1) hx hb dL_pass_13 (by decide) ?_
      exact zm_iret hx hb hr hlocks hG hS (by omega) (by omega) (zw_no hco rfl hD h6) dL_pass_14
    · refine vx_catch (E := "java/lang/IllegalStateException") (name := "java/lang/IllegalStateException") hown [⟨0, 9, 12, 13⟩] ⟨0, 9, 15, 15⟩ [] (by rw [htb]; rfl) (List.forall_mem_cons.mpr ⟨Or.inr ⟨by decide, "java/lang/IllegalArgumentException", hts (.classLink RL 13 "java/lang/IllegalArgumentException") (by decide +kernel), hZ.2.2.2.2.2.2.1 "java/lang/IllegalStateException" (by simp [za_exs]) "java/lang/IllegalArgumentException" (by simp [za_exs]) (by decide)⟩, (fun _ h => by cases h)⟩) rfl (by decide) (hts (.classLink RL 15 "java/lang/IllegalStateException") (by decide +kernel)) (va_Nw.use rfl (hZ.2.2.2.2.2.1 "java/lang/IllegalStateException" (by simp [za_exs]))) g1 g2 g3 ?_
      refine lv_astore_n (lv' := [(3, .ref q9), (0, .ref (ad 0 0)), (1, .int p0), (2, .ref (ad 33 0))]) hx hb dL_pass_15 rfl hl (by decide) rfl (fun ls hl => ?_)
      refine zb_iconst (n := 2) hx hb dL_pass_16 (by decide) ?_
      exact zm_iret hx hb hr hlocks hG hS (by omega) (by omega) (zw_no hco rfl hD h6) dL_pass_17
  · obtain ⟨hco, hre, X2, rfl, hD2⟩ := hp
    refine lv_i2l hx hb dL_pass_7 rfl ?_
    refine zst_OL hx hb hK hG hS dL_pass_8 (fun H locs hG hS => ?_)
    refine zb_goto (tgt := 18) hx hb dL_pass_9 (by decide) ?_
    refine zb_iconst (n := 0) hx hb dL_pass_18 (by decide) ?_
    exact zm_iret hx hb hr hlocks hG hS (by omega) (by omega) (zw_ok hco rfl (by rw [hre]) (zk_sm.rf _) (hD2) (zs_pass_6 hD.1 hD.2.2.2.2.2 h6 _ (zq_pass hco).2.2)) dL_pass_19

set_option maxRecDepth 100000 in
set_option maxHeartbeats 4000000 in
theorem c_L_talked (l : Launch) (hl0 : l.stackTraces = false) {E : za_E} {b : Nat} {ad : za_Ad} {S X T Y : za_S} {ow : Int64} {dw : UInt64} (p0 : Int32) (hD : zs_D S X) (h6 : zs_6 S) : Met l yL_talked wsL_talked ({ frames := 8, cells := 5, slots := 40, locals := 125 } : Room) (za_PcA E b (ad, S, X, T, Y, ow, dw) [.ref (ad 0 0), .int p0, .ref (ad 33 0)]) (za_Qi E b (fun r u => zw_post ad S T Y dw (zo_p S (zs_ix p0)) (S) (lN (S.1 4 (zs_ix p0) 0)) r u)) (5) (40) (za_A b) := by
  refine zw_met (ccm := cL_talked) (maxL := 4) (ret := (some .int)) (ws' := _) (own := RL) (lv := [(0, .ref (ad 0 0)), (1, .int p0), (2, .ref (ad 33 0))]) (by decide) rfl rfl rfl (by simp [lg_sl, Value.category]) ?_
  intro pg en s m below meth c hx hb hml hr hown hts hlocks htb hK hZ hAO hb0 hG hS ls hl
  skip
  refine lv_aload_n hx hb dL_talked_0 rfl (lv_at hl 2 rfl) ?_
  refine zb_iconst (n := 0) hx hb dL_talked_1 (by decide) ?_
  refine lv_aload_n hx hb dL_talked_2 rfl (lv_at hl 0 rfl) ?_
  refine lv_iload_n hx hb dL_talked_3 rfl (lv_at hl 1 rfl) ?_
  refine zc_xVl (As := [.int p0]) (rest := [.int (nI 0), .ref (ad 33 0)]) hK hZ hb0 hG hS hx hb hml hown hts (c_X6_talked l hl0 p0 hD.C) (cwV 1 hts gL_talked_X6_talked rfl rfl rfl (by decide +kernel) ⟨Nat.le_of_ble_eq_true rfl, Nat.le_of_ble_eq_true rfl⟩) (za_recv (q := (RX6, TX6, 11)) hK hG 0 0 ⟨by omega, rfl⟩ rfl rfl rfl) rfl hl rfl (Nat.le_of_ble_eq_true rfl) dL_talked_4 ⟨Nat.le_of_ble_eq_true rfl, Nat.le_of_ble_eq_true rfl⟩ (fun En ce q9 u_4 H locs hp hG hS g1 g2 g3 => ?_) (fun r_4 u_4 H locs hp hG hS => ?_)
  · obtain ⟨rfl, hco, rfl⟩ := hp
    refine vx_catch (E := "java/util/NoSuchElementException") (name := "java/util/NoSuchElementException") hown [] ⟨0, 8, 11, 21⟩ [] (by rw [htb]; rfl) (fun _ h => by cases h) rfl (by decide) (hts (.classLink RL 21 "java/util/NoSuchElementException") (by decide +kernel)) (va_Nw.use rfl (hZ.2.2.2.2.2.1 "java/util/NoSuchElementException" (by simp [za_exs]))) g1 g2 g3 ?_
    refine lv_astore_n (lv' := [(3, .ref q9), (0, .ref (ad 0 0)), (1, .int p0), (2, .ref (ad 33 0))]) hx hb dL_talked_11 rfl hl (by decide) rfl (fun ls hl => ?_)
    refine zb_iconst (n := 1) hx hb dL_talked_12 (by decide) ?_
    exact zm_iret hx hb hr hlocks hG hS (by omega) (by omega) (zw_no hco rfl hD h6) dL_talked_13
  · obtain ⟨hco, hre, rfl⟩ := hp
    refine zst_OL hx hb hK hG hS dL_talked_7 (fun H locs hG hS => ?_)
    refine zb_goto (tgt := 14) hx hb dL_talked_8 (by decide) ?_
    refine zb_iconst (n := 0) hx hb dL_talked_14 (by decide) ?_
    exact zm_iret hx hb hr hlocks hG hS (by omega) (by omega) (zw_ok hco rfl (hre) (zk_sm.rf _) (hD) (h6)) dL_talked_15

set_option maxRecDepth 100000 in
set_option maxHeartbeats 4000000 in
theorem c_L_hears (l : Launch) (hl0 : l.stackTraces = false) {E : za_E} {b : Nat} {ad : za_Ad} {S X T Y : za_S} {ow : Int64} {dw : UInt64} (p0 p1 : Int32) (hD : zs_D S X) (h6 : zs_6 S) : Met l yL_hears wsL_hears ({ frames := 8, cells := 5, slots := 40, locals := 128 } : Room) (za_PcA E b (ad, S, X, T, Y, ow, dw) [.ref (ad 0 0), .int p0, .int p1, .ref (ad 33 0)]) (za_Qi E b (fun r u => zw_post ad S T Y dw (zo_pp S (zs_ix p0) (zs_ix p1)) (S) (lN (if zo_he S (zs_ix p0) (zs_ix p1) = true then 1 else 0)) r u)) (5) (40) (za_A b) := by
  refine zw_met (ccm := cL_hears) (maxL := 5) (ret := (some .int)) (ws' := _) (own := RL) (lv := [(0, .ref (ad 0 0)), (1, .int p0), (2, .int p1), (3, .ref (ad 33 0))]) (by decide) rfl rfl rfl (by simp [lg_sl, Value.category]) ?_
  intro pg en s m below meth c hx hb hml hr hown hts hlocks htb hK hZ hAO hb0 hG hS ls hl
  skip
  refine lv_aload_n hx hb dL_hears_0 rfl (lv_at hl 3 rfl) ?_
  refine zb_iconst (n := 0) hx hb dL_hears_1 (by decide) ?_
  refine lv_aload_n hx hb dL_hears_2 rfl (lv_at hl 0 rfl) ?_
  refine lv_iload_n hx hb dL_hears_3 rfl (lv_at hl 1 rfl) ?_
  refine lv_iload_n hx hb dL_hears_4 rfl (lv_at hl 2 rfl) ?_
  refine zc_xVi (As := [.int p0, .int p1]) (rest := [.int (nI 0), .ref (ad 33 0)]) hK hZ hb0 hG hS hx hb hml hown hts (c_X6_hears l hl0 p0 p1 hD.C) (cwV 2 hts gL_hears_X6_hears rfl rfl rfl (by decide +kernel) ⟨Nat.le_of_ble_eq_true rfl, Nat.le_of_ble_eq_true rfl⟩) (za_recv (q := (RX6, TX6, 11)) hK hG 0 0 ⟨by omega, rfl⟩ rfl rfl rfl) rfl hl rfl (Nat.le_of_ble_eq_true rfl) dL_hears_5 ⟨Nat.le_of_ble_eq_true rfl, Nat.le_of_ble_eq_true rfl⟩ (fun En ce q9 u_5 H locs hp hG hS g1 g2 g3 => ?_) (fun r_5 u_5 H locs hp hG hS => ?_)
  · obtain ⟨rfl, hco, rfl⟩ := hp
    refine vx_catch (E := "java/util/NoSuchElementException") (name := "java/util/NoSuchElementException") hown [] ⟨0, 17, 20, 21⟩ [] (by rw [htb]; rfl) (fun _ h => by cases h) rfl (by decide) (hts (.classLink RL 21 "java/util/NoSuchElementException") (by decide +kernel)) (va_Nw.use rfl (hZ.2.2.2.2.2.1 "java/util/NoSuchElementException" (by simp [za_exs]))) g1 g2 g3 ?_
    refine lv_astore (lv' := [(4, .ref q9), (0, .ref (ad 0 0)), (1, .int p0), (2, .int p1), (3, .ref (ad 33 0))]) hx hb dL_hears_20 hl (by decide) rfl (fun ls hl => ?_)
    refine zb_iconst (n := 1) hx hb dL_hears_22 (by decide) ?_
    exact zm_iret hx hb hr hlocks hG hS (by omega) (by omega) (zw_no hco rfl hD h6) dL_hears_23
  · obtain ⟨hco, rfl, rfl⟩ := hp
    have hbl : (if zo_he S (zs_ix p0) (zs_ix p1) = true then 1 else 0) < 2 ^ 31 := by split <;> decide
    refine zb_if_eq (x := (if zo_he S (zs_ix p0) (zs_ix p1) = true then 1 else 0)) (tgt := 15) hx hb (by omega) dL_hears_8 (by decide) (fun c_8 => ?_) (fun c_8 => ?_)
    · refine lv_lconst (v := lN 0) hx hb dL_hears_15 (by decide) ?_
      refine zst_OL hx hb hK hG hS dL_hears_16 (fun H locs hG hS => ?_)
      refine zb_goto (tgt := 24) hx hb dL_hears_17 (by decide) ?_
      refine zb_iconst (n := 0) hx hb dL_hears_24 (by decide) ?_
      exact zm_iret hx hb hr hlocks hG hS (by omega) (by omega) (zw_ok hco rfl (by first | (rw [if_pos (zs_b1 c_8)]; done) | (rw [zs_b0 c_8]; rfl)) (zk_sm.rf _) (hD) (h6)) dL_hears_25
    · refine lv_lconst (v := lN 1) hx hb dL_hears_11 (by decide) ?_
      refine zb_goto (tgt := 16) hx hb dL_hears_12 (by decide) ?_
      refine zst_OL hx hb hK hG hS dL_hears_16 (fun H locs hG hS => ?_)
      refine zb_goto (tgt := 24) hx hb dL_hears_17 (by decide) ?_
      refine zb_iconst (n := 0) hx hb dL_hears_24 (by decide) ?_
      exact zm_iret hx hb hr hlocks hG hS (by omega) (by omega) (zw_ok hco rfl (by first | (rw [if_pos (zs_b1 c_8)]; done) | (rw [zs_b0 c_8]; rfl)) (zk_sm.rf _) (hD) (h6)) dL_hears_25
