def zw_pd (u0 : za_T) (C : Nat) (D : UInt64) (r : Int32) (u : za_T) : Prop := ∃ dw2, r = nI C ∧ u = (u0.1, u0.2.1, u0.2.2.1, u0.2.2.2.1, u0.2.2.2.2.1, u0.2.2.2.2.2.1, dw2) ∧ (C = 0 → dw2 = D)
set_option maxRecDepth 100000 in
set_option maxHeartbeats 4000000 in
theorem c_L_meanLayer (l : Launch) (hl0 : l.stackTraces = false) {E : za_E} {b : Nat} {ad : za_Ad} {S X T Y : za_S} {ow : Int64} {dw : UInt64}  (hD : zs_D S X) : Met l yL_meanLayer wsL_meanLayer ({ frames := 7, cells := 5, slots := 40, locals := 112 } : Room) (za_PcA E b (ad, S, X, T, Y, ow, dw) [.ref (ad 0 0), .ref (ad 34 0)]) (za_Qi E b (fun r u => zw_pd (ad, S, X, T, Y, ow, dw) (zo_md S) (zs_md S) r u)) (5) (40) (za_A b) := by
  refine zw_met (ccm := cL_meanLayer) (maxL := 3) (ret := (some .int)) (ws' := _) (own := RL) (lv := [(0, .ref (ad 0 0)), (1, .ref (ad 34 0))]) (by decide) rfl rfl rfl (by simp [lg_sl, Value.category]) ?_
  intro pg en s m below meth c hx hb hml hr hown hts hlocks htb hK hZ hAO hb0 hG hS ls hl
  skip
  refine lv_aload_n hx hb dL_meanLayer_0 rfl (lv_at hl 1 rfl) ?_
  refine zb_iconst (n := 0) hx hb dL_meanLayer_1 (by decide) ?_
  refine lv_aload_n hx hb dL_meanLayer_2 rfl (lv_at hl 0 rfl) ?_
  refine zc_xVd (As := []) (rest := [.int (nI 0), .ref (ad 34 0)]) hK hZ hb0 hG hS hx hb hml hown hts (c_X6_meanLayer l hl0 hD.C) (cwV 0 hts gL_meanLayer_X6_meanLayer rfl rfl rfl (by decide +kernel) ⟨Nat.le_of_ble_eq_true rfl, Nat.le_of_ble_eq_true rfl⟩) (za_recv (q := (RX6, TX6, 11)) hK hG 0 0 ⟨by omega, rfl⟩ rfl rfl rfl) rfl hl rfl (Nat.le_of_ble_eq_true rfl) dL_meanLayer_3 ⟨Nat.le_of_ble_eq_true rfl, Nat.le_of_ble_eq_true rfl⟩ (fun En ce q9 u_3 H locs hp hG hS g1 g2 g3 => ?_) (fun r_3 u_3 H locs hp hG hS => ?_)
  · obtain ⟨rfl, hco, rfl⟩ := hp
    refine vx_catch (E := "java/lang/ArithmeticException") (name := "java/lang/ArithmeticException") hown [] ⟨0, 7, 10, 100⟩ [] (by rw [htb]; rfl) (fun _ h => by cases h) rfl (by decide) (hts (.classLink RL 100 "java/lang/ArithmeticException") (by decide +kernel)) (va_Nw.use rfl (hZ.2.2.2.2.2.1 "java/lang/ArithmeticException" (by simp [za_exs]))) g1 g2 g3 ?_
    refine lv_astore_n (lv' := [(2, .ref q9), (0, .ref (ad 0 0)), (1, .ref (ad 34 0))]) hx hb dL_meanLayer_10 rfl hl (by decide) rfl (fun ls hl => ?_)
    refine zb_iconst (n := 1) hx hb dL_meanLayer_11 (by decide) ?_
    exact zm_iret hx hb hr hlocks hG hS (by omega) (by omega) ⟨dw, by rw [hco], rfl, fun h => by rw [hco] at h; cases h⟩ dL_meanLayer_12
  · obtain ⟨hco, hre, rfl⟩ := hp
    refine zst_OD hx hb hK hG hS dL_meanLayer_6 (fun H locs hG hS => ?_)
    refine zb_goto (tgt := 13) hx hb dL_meanLayer_7 (by decide) ?_
    refine zb_iconst (n := 0) hx hb dL_meanLayer_13 (by decide) ?_
    exact zm_iret hx hb hr hlocks hG hS (by omega) (by omega) ⟨_, by rw [hco], rfl, fun _ => by rw [hre]⟩ dL_meanLayer_14

set_option maxRecDepth 100000 in
set_option maxHeartbeats 4000000 in
theorem c_L_usedShare (l : Launch) (hl0 : l.stackTraces = false) {E : za_E} {b : Nat} {ad : za_Ad} {S X T Y : za_S} {ow : Int64} {dw : UInt64}  (hD : zs_D S X) : Met l yL_usedShare wsL_usedShare ({ frames := 7, cells := 5, slots := 40, locals := 107 } : Room) (za_PcA E b (ad, S, X, T, Y, ow, dw) [.ref (ad 0 0), .ref (ad 34 0)]) (za_Qi E b (fun r u => zw_pd (ad, S, X, T, Y, ow, dw) (zo_shr S) (FP.f2d (zs_shr S)) r u)) (5) (40) (za_A b) := by
  refine zw_met (ccm := cL_usedShare) (maxL := 3) (ret := (some .int)) (ws' := _) (own := RL) (lv := [(0, .ref (ad 0 0)), (1, .ref (ad 34 0))]) (by decide) rfl rfl rfl (by simp [lg_sl, Value.category]) ?_
  intro pg en s m below meth c hx hb hml hr hown hts hlocks htb hK hZ hAO hb0 hG hS ls hl
  skip
  refine lv_aload_n hx hb dL_usedShare_0 rfl (lv_at hl 1 rfl) ?_
  refine zb_iconst (n := 0) hx hb dL_usedShare_1 (by decide) ?_
  refine lv_aload_n hx hb dL_usedShare_2 rfl (lv_at hl 0 rfl) ?_
  refine zc_xVf (As := []) (rest := [.int (nI 0), .ref (ad 34 0)]) hK hZ hb0 hG hS hx hb hml hown hts (c_X6_usedShare l hl0 hD.C) (cwV 0 hts gL_usedShare_X6_usedShare rfl rfl rfl (by decide +kernel) ⟨Nat.le_of_ble_eq_true rfl, Nat.le_of_ble_eq_true rfl⟩) (za_recv (q := (RX6, TX6, 11)) hK hG 0 0 ⟨by omega, rfl⟩ rfl rfl rfl) rfl hl rfl (Nat.le_of_ble_eq_true rfl) dL_usedShare_3 ⟨Nat.le_of_ble_eq_true rfl, Nat.le_of_ble_eq_true rfl⟩ (fun En ce q9 u_3 H locs hp hG hS g1 g2 g3 => ?_) (fun r_3 u_3 H locs hp hG hS => ?_)
  · obtain ⟨rfl, hco, rfl⟩ := hp
    refine vx_catch (E := "java/lang/ArithmeticException") (name := "java/lang/ArithmeticException") hown [] ⟨0, 8, 11, 100⟩ [] (by rw [htb]; rfl) (fun _ h => by cases h) rfl (by decide) (hts (.classLink RL 100 "java/lang/ArithmeticException") (by decide +kernel)) (va_Nw.use rfl (hZ.2.2.2.2.2.1 "java/lang/ArithmeticException" (by simp [za_exs]))) g1 g2 g3 ?_
    refine lv_astore_n (lv' := [(2, .ref q9), (0, .ref (ad 0 0)), (1, .ref (ad 34 0))]) hx hb dL_usedShare_11 rfl hl (by decide) rfl (fun ls hl => ?_)
    refine zb_iconst (n := 1) hx hb dL_usedShare_12 (by decide) ?_
    exact zm_iret hx hb hr hlocks hG hS (by omega) (by omega) ⟨dw, by rw [hco], rfl, fun h => by rw [hco] at h; cases h⟩ dL_usedShare_13
  · obtain ⟨hco, hre, rfl⟩ := hp
    refine lv_f2d hx hb dL_usedShare_6 (by rw [hre]; exact zf_n64 (zf_f2d (zs_shr_n hD.1 (zo_shr0 hco)))) ?_
    refine zst_OD hx hb hK hG hS dL_usedShare_7 (fun H locs hG hS => ?_)
    refine zb_goto (tgt := 14) hx hb dL_usedShare_8 (by decide) ?_
    refine zb_iconst (n := 0) hx hb dL_usedShare_14 (by decide) ?_
    exact zm_iret hx hb hr hlocks hG hS (by omega) (by omega) ⟨_, by rw [hco], rfl, fun _ => by rw [hre]⟩ dL_usedShare_15
