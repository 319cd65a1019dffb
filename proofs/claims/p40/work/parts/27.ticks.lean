
section
variable {p : Program} {l : Launch} {e : Env} {R : Room} {s : State} {m : MethodId} {args : Array Value} {below : List Frame} {meth : Method} {c : Code} {H : Heap} {locs : List Loc} {cells slots : Nat} {Q : State → Prop}
theorem zw_cs {cells' slots' : Nat} {g : JFrame} (h1 : cells = cells') (h2 : slots = slots') (kk : W p l e R s m args below meth c H locs cells' slots' Q g) : W p l e R s m args below meth c H locs cells slots Q g := by
  subst h1
  subst h2
  exact kk
end
theorem zs_i2 {x y : Bool} (h : x = y) : (if x = true then 1 else 0) = (if y = true then 1 else 0) := by rw [h]
set_option maxRecDepth 100000 in
set_option maxHeartbeats 4000000 in
theorem c_X6_takeTurns (l : Launch) {E : za_E} {b : Nat} {ad : za_Ad} {S X T Y : za_S} {ow : Int64} {dw : UInt64}  (hJ : zs_J S X) (hI : zs_I S) (hT : S.1 7 8 0 + 6 ≤ 6 * S.1 0 3 0) (hBX : zs_B X) (hR8 : X.1 4 8 0 = zl_len 8 (S.1 7 8 0)) : Met l yX6_takeTurns wsX6_takeTurns ({ frames := 4, cells := zl_ce 8 ((zs_tt S 6).1.1 7 8 0) - zl_ce 8 (S.1 7 8 0), slots := zl_sl 8 ((zs_tt S 6).1.1 7 8 0) - zl_sl 8 (S.1 7 8 0), locals := 104 } : Room) (za_Pc E b (ad, S, X, T, Y, ow, dw) [.ref (ad 0 0)]) (za_Qi E b (fun r u => r = nI (if (zs_tt S 6).2 = true then 1 else 0) ∧ ∃ X2, u = (ad, (zs_tt S 6).1, X2, T, Y, ow, dw) ∧ zl_X X X2 8 (zl_len 8 ((zs_tt S 6).1.1 7 8 0)))) (zl_ce 8 ((zs_tt S 6).1.1 7 8 0) - zl_ce 8 (S.1 7 8 0)) (zl_sl 8 ((zs_tt S 6).1.1 7 8 0) - zl_sl 8 (S.1 7 8 0)) (za_A b) := by
  refine zm_met (ccm := cX6_takeTurns) (maxL := 6) (ret := (some .boolean)) (ws' := _) (own := RX6) (lv := [(0, .ref (ad 0 0))]) (by decide) rfl rfl rfl (by simp [lg_sl, Value.category]) ?_
  intro pg en s m below meth c hx hb hml hr hown hts hlocks hK hZ hb0 hG hS ls hl
  have hf165 := hts (.fieldLink RX6 165 "VideoBridge$Room" "speaker" "LVideoBridge$Person;") (by decide +kernel)
  have hf17 := hts (.fieldLink RX6 17 "VideoBridge" "allRooms" "[LVideoBridge$Room;") (by decide +kernel)
  have hf32 := hts (.fieldLink RX6 32 "VideoBridge" "turns" "LVideoBridge$Row;") (by decide +kernel)
  have hf86 := hts (.fieldLink RX6 86 "VideoBridge$Room" "number" "I") (by decide +kernel)
  have hinX6 : ∀ w ∈ u_ws RX6 TX6 11, w ∈ wsX6_takeTurns := by decide +kernel
  have hinX4 : ∀ w ∈ u_ws RX4 TX4 6, w ∈ wsX6_takeTurns := by decide +kernel
  skip
  refine zb_iconst (n := 0) hx hb dX6_takeTurns_0 (by decide) ?_
  refine lv_istore_n (lv' := [(1, .int (nI 0)), (0, .ref (ad 0 0))]) hx hb dX6_takeTurns_1 rfl hl (by decide) rfl (fun ls hl => ?_)
  refine lv_aload_n hx hb dX6_takeTurns_2 rfl (lv_at hl 1 rfl) ?_
  refine zg_BR_allRooms hx hb hts hinX6 hown hf17 hK hG dX6_takeTurns_3 ?_
  refine lv_astore_n (lv' := [(2, .ref (ad 2 0)), (1, .int (nI 0)), (0, .ref (ad 0 0))]) hx hb dX6_takeTurns_6 rfl hl (by decide) rfl (fun ls hl => ?_)
  refine lv_aload_n hx hb dX6_takeTurns_7 rfl (lv_at hl 0 rfl) ?_
  refine zl_AR hx hb hK hG dX6_takeTurns_8 ?_
  refine lv_istore_n (lv' := [(3, .int (nI 6)), (2, .ref (ad 2 0)), (1, .int (nI 0)), (0, .ref (ad 0 0))]) hx hb dX6_takeTurns_9 rfl hl (by decide) rfl (fun ls hl => ?_)
  refine zb_iconst (n := 0) hx hb dX6_takeTurns_10 (by decide) ?_
  refine lv_istore (lv' := [(4, .int (nI 0)), (3, .int (nI 6)), (2, .ref (ad 2 0)), (1, .int (nI 0)), (0, .ref (ad 0 0))]) hx hb dX6_takeTurns_11 hl (by decide) rfl (fun ls hl => ?_)
  have loop13 : ∀ (N : Nat) (i : Nat) (X1 : za_S), (i ≤ 6) → (zl_X X X1 8 (zl_len 8 ((zs_tt S i).1.1 7 8 0))) → 6 - i < N → ∀ (H : Heap) (locs : List Loc), za_G E b (ad, (zs_tt S i).1, X1, T, Y, ow, dw) H → va_S (za_A b) s.heap H locs → ∀ ls : Array Slot, lv_has ls 6 [(0, .ref (ad 0 0)), (1, .int (nI (if (zs_tt S i).2 = true then 1 else 0))), (2, .ref (ad 2 0)), (3, .int (nI 6)), (4, .int (nI i))] → W pg l en ({ frames := 4, cells := zl_ce 8 ((zs_tt S 6).1.1 7 8 0) - zl_ce 8 (S.1 7 8 0), slots := zl_sl 8 ((zs_tt S 6).1.1 7 8 0) - zl_sl 8 (S.1 7 8 0), locals := 104 } : Room) s m ([.ref (ad 0 0)] : List Value).toArray below meth c H locs (zl_ce 8 ((zs_tt S i).1.1 7 8 0) - zl_ce 8 (S.1 7 8 0)) (zl_sl 8 ((zs_tt S i).1.1 7 8 0) - zl_sl 8 (S.1 7 8 0)) (MQ below (za_Qi E b (fun r u => r = nI (if (zs_tt S 6).2 = true then 1 else 0) ∧ ∃ X2, u = (ad, (zs_tt S 6).1, X2, T, Y, ow, dw) ∧ zl_X X X2 8 (zl_len 8 ((zs_tt S 6).1.1 7 8 0)))) ([.ref (ad 0 0)] : List Value).toArray s (zl_ce 8 ((zs_tt S 6).1.1 7 8 0) - zl_ce 8 (S.1 7 8 0)) (zl_sl 8 ((zs_tt S 6).1.1 7 8 0) - zl_sl 8 (S.1 7 8 0)) (za_A b)) (F0 m 13 ls []) := by
    intro N
    induction N with
    | zero => intro i X1 hi hX1 hN; exact absurd hN (Nat.not_lt_zero _)
    | succ N ih13 =>
      intro i X1 hi hX1 hN H locs hG hS ls hl
      obtain ⟨hI1, hc1, hm1, hm2⟩ := zs_tt_f hI hT i hi
      have hJ1 : zs_J (zs_tt S i).1 X1 := zl_X_J hX1 (zs_J_c hJ hc1)
      have ht2 := hI.t.1
      have hl8 : (zs_tt S i).1.1 7 8 0 < zl_lim 8 ∨ ¬ i < 6 := by show _ < 12000 ∨ _; omega
      have hl8' : (zs_tt S i).1.1 7 8 0 ≤ zl_lim 8 := by show _ ≤ 12000; omega
      have hlen : zl_len 8 ((zs_tt S i).1.1 7 8 0) ≤ 12000 := zl_le 8 _
      have hB1 : zs_B X1 := zl_X_B hX1 hBX (by omega)
      have hfb := zs_bl (zs_tt S i).2
      obtain ⟨x1, x2, x3, x4⟩ := zs_tt_f hI hT 6 (Nat.le_refl 6)
      obtain ⟨w1, w2⟩ := zl_mono (k := 8) (zs_tt_mo hI hT (i := i) (j := 6) hi (Nat.le_refl 6)) (by show _ ≤ 12000; omega)
      refine lv_iload hx hb dX6_takeTurns_13 (lv_at hl 4 rfl) ?_
      refine lv_iload_n hx hb dX6_takeTurns_15 rfl (lv_at hl 3 rfl) ?_
      refine zb_icmp_ge (x := i) (y := 6) (tgt := 70) hx hb (by omega) (by omega) dX6_takeTurns_16 (by decide) (fun c_16 => ?_) (fun c_16 => ?_)
      · obtain rfl : i = 6 := by omega
        refine lv_iload_n hx hb dX6_takeTurns_70 rfl (lv_at hl 1 rfl) ?_
        exact zm_zret hx hb hr (by split <;> rfl) hlocks hG hS (by omega) (by omega) ⟨rfl, X1, rfl, hX1⟩ dX6_takeTurns_71
      · refine lv_aload_n hx hb dX6_takeTurns_19 rfl (lv_at hl 2 rfl) ?_
        refine lv_iload hx hb dX6_takeTurns_20 (lv_at hl 4 rfl) ?_
        refine zld_AR (r := X1.2 2 i 0) hx hb hK hG (by omega) rfl dX6_takeTurns_22 ?_
        refine zb_ostore (ad := ad) (κ := 9) (r := X1.2 2 i 0) (lv' := [(5, za_o ad 9 (X1.2 2 i 0)), (0, .ref (ad 0 0)), (1, .int (nI (if (zs_tt S i).2 = true then 1 else 0))), (2, .ref (ad 2 0)), (3, .int (nI 6)), (4, .int (nI i))]) hx hb dX6_takeTurns_23 hl (by decide) rfl (fun ls hl => ?_)
        refine zb_oload hx hb dX6_takeTurns_25 (lv_at hl 0 rfl) ?_
        refine zb_ifnull (κ := 9) (r := X1.2 2 i 0) (tgt := 64) hx hb dX6_takeTurns_27 (by decide) (fun c_27 => ?_) (fun x_1 c_27 => ?_)
        · rw [c_27] at hl
          refine zb_iinc (n := 1) (k := 5) (lv' := [(4, .int (nI (i + 1))), (5, .null), (0, .ref (ad 0 0)), (1, .int (nI (if (zs_tt S i).2 = true then 1 else 0))), (2, .ref (ad 2 0)), (3, .int (nI 6))]) hx hb dX6_takeTurns_64 hl rfl (by decide) (by decide) rfl (fun ls hl => ?_)
          refine zb_goto (tgt := 13) hx hb dX6_takeTurns_67 (by decide) ?_
          have eN : zs_tt S (i + 1) = zs_tt S i := zs_tt_n (fun h => hJ1.rn c_27 (by rw [hc1]; exact h))
          have hfl : (if (zs_tt S (i + 1)).2 = true then 1 else 0) = (if (zs_tt S i).2 = true then 1 else 0) := by rw [eN]
          have hl : lv_has ls 6 [(4, .int (nI (i + 1))), (5, .null), (0, .ref (ad 0 0)), (1, .int (nI (if (zs_tt S (i + 1)).2 = true then 1 else 0))), (2, .ref (ad 2 0)), (3, .int (nI 6))] := by rw [hfl]; exact hl
          refine zw_cs (cells' := zl_ce 8 ((zs_tt S (i + 1)).1.1 7 8 0) - zl_ce 8 (S.1 7 8 0)) (slots' := zl_sl 8 ((zs_tt S (i + 1)).1.1 7 8 0) - zl_sl 8 (S.1 7 8 0)) (by rw [eN]) (by rw [eN]) ?_
          exact ih13 (i + 1) X1 (by omega) (by rw [eN]; exact hX1) (by omega) _ _ (by rw [eN]; exact hG) hS ls (lv_sub hl [2, 3, 4, 5, 0] rfl)
        · rw [c_27] at hl
          have hyi : x_1 = i := (hJ1.r c_27).1
          have hin : i < S.1 0 1 0 := by have := (hJ1.r c_27).2; rw [hc1] at this; exact this
          rw [hyi] at hl
          have hin1 : i < (zs_tt S i).1.1 0 1 0 := by rw [hc1]; exact hin
          have hIp := zs_I_pt hI1 hin1
          obtain ⟨d1, d2⟩ := zs_pt_c (zs_tt S i).1 i
          have d3 : (zs_pt (zs_tt S i).1 i).1.1 7 8 0 = (zs_tt S i).1.1 7 8 0 := by rw [d2]
          have hJp := zs_J_c hJ1 d1
          have hpb := zs_bl (zs_pt (zs_tt S i).1 i).2
          have hv_2 : ∀ z, X1.2 2 i 0 = some z → z < X1.1 5 1 0 := (hJ1.rv i)
          refine lv_aload hx hb dX6_takeTurns_30 (lv_at hl 0 rfl) ?_
          refine zc_Vi (As := []) (rest := []) hK hZ hb0 hG hS hx hb hml hown hts (c_X4_passTick l i (hJ1.ro hin1) (hI1.sz i) (fun j x e => hJ1.pe (hI1.pe i j x e)) (fun x e => hJ1.pe (hI1.sp hin1 e).1) (fun x e => hJ1.pe (hI1.ch hin1 e)) hB1 hI1.B) (cwV 0 hts gX6_takeTurns_X4_passTick rfl rfl rfl (by decide +kernel) ⟨Nat.le_of_ble_eq_true rfl, Nat.le_of_ble_eq_true rfl⟩) (za_recv (q := (RX4, TX4, 6)) hK hG 9 i (show i < X1.1 5 1 0 from (hJ1.ro hin1)) rfl rfl rfl) rfl hl rfl (Nat.le_of_ble_eq_true rfl) dX6_takeTurns_32 ⟨by show zl_ce 8 ((zs_tt S i).1.1 7 8 0) - zl_ce 8 (S.1 7 8 0) + 0 ≤ zl_ce 8 ((zs_tt S 6).1.1 7 8 0) - zl_ce 8 (S.1 7 8 0); omega, by show zl_sl 8 ((zs_tt S i).1.1 7 8 0) - zl_sl 8 (S.1 7 8 0) + 0 ≤ zl_sl 8 ((zs_tt S 6).1.1 7 8 0) - zl_sl 8 (S.1 7 8 0); omega⟩ (fun r_32 u_32 H locs hp hG hS => ?_)
          obtain ⟨rfl, rfl⟩ := hp
          refine zb_if_eq (x := if (zs_pt (zs_tt S i).1 i).2 = true then 1 else 0) (tgt := 64) hx hb (by omega) dX6_takeTurns_35 (by decide) (fun c_35 => ?_) (fun c_35 => ?_)
          · refine zb_iinc (n := 1) (k := 5) (lv' := [(4, .int (nI (i + 1))), (5, .ref (ad 9 i)), (0, .ref (ad 0 0)), (1, .int (nI (if (zs_tt S i).2 = true then 1 else 0))), (2, .ref (ad 2 0)), (3, .int (nI 6))]) hx hb dX6_takeTurns_64 hl rfl (by decide) (by decide) rfl (fun ls hl => ?_)
            refine zb_goto (tgt := 13) hx hb dX6_takeTurns_67 (by decide) ?_
            have eN : zs_tt S (i + 1) = ((zs_pt (zs_tt S i).1 i).1, (zs_tt S i).2) := by rw [zs_tt_y hin]; unfold zs_t1; rw [zs_b0 c_35]; simp
            have hfl : (if (zs_tt S (i + 1)).2 = true then 1 else 0) = (if (zs_tt S i).2 = true then 1 else 0) := by rw [eN]
            have hl : lv_has ls 6 [(4, .int (nI (i + 1))), (5, .ref (ad 9 i)), (0, .ref (ad 0 0)), (1, .int (nI (if (zs_tt S (i + 1)).2 = true then 1 else 0))), (2, .ref (ad 2 0)), (3, .int (nI 6))] := by rw [hfl]; exact hl
            refine zw_cs (cells' := zl_ce 8 ((zs_tt S (i + 1)).1.1 7 8 0) - zl_ce 8 (S.1 7 8 0)) (slots' := zl_sl 8 ((zs_tt S (i + 1)).1.1 7 8 0) - zl_sl 8 (S.1 7 8 0)) (by rw [eN, d3]; rfl) (by rw [eN, d3]; rfl) ?_
            exact ih13 (i + 1) X1 (by omega) (by rw [eN, d3]; exact hX1) (by omega) _ _ (by rw [eN]; exact hG) hS ls (lv_sub hl [2, 3, 4, 5, 0] rfl)
          · refine lv_aload_n hx hb dX6_takeTurns_38 rfl (lv_at hl 1 rfl) ?_
            refine zg_BR_turns hx hb hts hinX6 hown hf32 hK hG dX6_takeTurns_39 ?_
            refine zb_bipush (n := 10) hx hb dX6_takeTurns_42 (by decide) ?_
            refine lv_aload hx hb dX6_takeTurns_44 (lv_at hl 0 rfl) ?_
            refine zg_RM_number hx hb hts hinX4 hown hf86 hK hG i (hJ1.ro hin1) dX6_takeTurns_46 ?_
            refine zb_imul hx hb dX6_takeTurns_49 ?_
            refine lv_aload hx hb dX6_takeTurns_50 (lv_at hl 0 rfl) ?_
            refine zg_RM_speaker hx hb hts hinX4 hown hf165 hK hG i (hJ1.ro hin1) (r := ((zs_pt (zs_tt S i).1 i).1).2 3 i 0) rfl dX6_takeTurns_52 ?_
            obtain ⟨n9, o4, o3, -, f1, -, -, f2⟩ := zs_pt_f (zs_tt S i).1 i
            obtain ⟨f3, f4⟩ := f2 (zs_b1 c_35)
            obtain ⟨q9, hq9⟩ : ∃ q, (zs_pt (zs_tt S i).1 i).1.2 3 i 0 = some q := by
              rw [f1]
              rw [show (zs_sp (zs_tt S i).1 i n9 o4 o3).2 3 i 0 = o3 from za_Ps _ _ _ _ _, f3]
              cases hc9 : zs_cand (zs_tt S i).1 i with
              | none => exact absurd hc9 f4
              | some q => exact ⟨q, rfl⟩
            have hq8 : q9 < S.1 0 0 0 := by have := (hIp.sp (by rw [d1]; exact hin1) hq9).1; rw [d1, hc1] at this; exact this
            have hq10 := hI.c.1
            rw [hq9]
            have eT : (zs_tt S (i + 1)).1 = zs_put (zs_pt (zs_tt S i).1 i).1 8 (some (10 * i + q9)) := by
              rw [zs_tt_y hin]
              show zs_t1 _ _ = _
              unfold zs_t1 zs_tv
              rw [if_pos (zs_b1 c_35), hq9]
              rfl
            have e7 : (zs_tt S (i + 1)).1.1 7 8 0 = (zs_tt S i).1.1 7 8 0 + 1 := by
              rw [eT]
              exact (za_Ns _ _ _ _ _).trans (by rw [d3])
            have hi6 : i < 6 := by omega
            have hll : (zs_tt S i).1.1 7 8 0 < zl_lim 8 := by rcases hl8 with q | q; exact q; exact absurd hi6 q
            obtain ⟨y1, y2⟩ := zl_mono (k := 8) (n := S.1 7 8 0) (m := (zs_tt S i).1.1 7 8 0) hm1 hl8'
            obtain ⟨y3, y4⟩ := zl_put hll
            obtain ⟨z1, z2, z3, z4⟩ := zs_tt_f hI hT 6 (Nat.le_refl 6)
            have hmo := zs_tt_mo hI hT (i := i + 1) (j := 6) (by omega) (Nat.le_refl 6)
            rw [e7] at hmo
            obtain ⟨y5, y6⟩ := zl_mono (k := 8) (n := (zs_tt S i).1.1 7 8 0 + 1) (m := (zs_tt S 6).1.1 7 8 0) hmo (by show _ ≤ 12000; omega)
            refine zc_Si (As := [.ref (ad 8 q9)]) (rest := [.int (nI (10 * i)), .ref (ad 12 8)]) hK hZ hb0 hG hS hx hb hml hown hts (c_X6_numberOf l (some q9) (by rintro _ ⟨⟩; exact hJ1.pe (by rw [hc1]; exact hq8))) (cwS 1 hts gX6_takeTurns_X6_numberOf rfl rfl rfl (by decide +kernel) ⟨Nat.le_of_ble_eq_true rfl, Nat.le_of_ble_eq_true rfl⟩) rfl hl rfl (Nat.le_of_ble_eq_true rfl) dX6_takeTurns_55 ⟨by show zl_ce 8 ((zs_tt S i).1.1 7 8 0) - zl_ce 8 (S.1 7 8 0) + 0 ≤ zl_ce 8 ((zs_tt S 6).1.1 7 8 0) - zl_ce 8 (S.1 7 8 0); omega, by show zl_sl 8 ((zs_tt S i).1.1 7 8 0) - zl_sl 8 (S.1 7 8 0) + 0 ≤ zl_sl 8 ((zs_tt S 6).1.1 7 8 0) - zl_sl 8 (S.1 7 8 0); omega⟩ (fun r_55 u_55 H locs hp hG hS => ?_)
            obtain ⟨rfl, rfl⟩ := hp
            refine zb_iadd hx hb dX6_takeTurns_58 ?_
            refine zc_Vv (As := [.int (nI ((10 * i) + q9))]) (rest := []) hK hZ hb0 hG hS hx hb hml hown hts (c_X5_put l 8 (some (10 * i + q9)) (Or.inr rfl) (by rw [d3]; exact hX1.1) (by rw [d3]; exact hll) (fun j hj => hIp.rz hj)) (cwV 1 hts gX6_takeTurns_X5_put rfl rfl rfl (by decide +kernel) ⟨Nat.le_of_ble_eq_true rfl, Nat.le_of_ble_eq_true rfl⟩) (za_recv (q := (RX5, TX5, 3)) hK hG 12 8 (show 8 < X1.1 5 2 0 ∨ 8 = 8 from (Or.inr rfl)) rfl rfl rfl) rfl hl rfl (Nat.le_of_ble_eq_true rfl) dX6_takeTurns_59 ⟨by show zl_ce 8 ((zs_tt S i).1.1 7 8 0) - zl_ce 8 (S.1 7 8 0) + _ ≤ zl_ce 8 ((zs_tt S 6).1.1 7 8 0) - zl_ce 8 (S.1 7 8 0); rw [d3]; omega, by show zl_sl 8 ((zs_tt S i).1.1 7 8 0) - zl_sl 8 (S.1 7 8 0) + _ ≤ zl_sl 8 ((zs_tt S 6).1.1 7 8 0) - zl_sl 8 (S.1 7 8 0); rw [d3]; omega⟩ (fun u_59 H locs hp hG hS => ?_)
            obtain ⟨X2, rfl, q1⟩ := hp
            refine zb_iconst (n := 1) hx hb dX6_takeTurns_62 (by decide) ?_
            refine lv_istore_n (lv' := [(1, .int (nI 1)), (5, .ref (ad 9 i)), (0, .ref (ad 0 0)), (2, .ref (ad 2 0)), (3, .int (nI 6)), (4, .int (nI i))]) hx hb dX6_takeTurns_63 rfl hl (by decide) rfl (fun ls hl => ?_)
            refine zb_iinc (n := 1) (k := 5) (lv' := [(4, .int (nI (i + 1))), (1, .int (nI 1)), (5, .ref (ad 9 i)), (0, .ref (ad 0 0)), (2, .ref (ad 2 0)), (3, .int (nI 6))]) hx hb dX6_takeTurns_64 hl rfl (by decide) (by decide) rfl (fun ls hl => ?_)
            refine zb_goto (tgt := 13) hx hb dX6_takeTurns_67 (by decide) ?_
            have hfl : (if (zs_tt S (i + 1)).2 = true then 1 else 0) = 1 := by rw [zs_tt_y hin, zs_b1 c_35]; simp
            have hl : lv_has ls 6 [(4, .int (nI (i + 1))), (1, .int (nI (if (zs_tt S (i + 1)).2 = true then 1 else 0))), (5, .ref (ad 9 i)), (0, .ref (ad 0 0)), (2, .ref (ad 2 0)), (3, .int (nI 6))] := by rw [hfl]; exact hl
            refine zw_cs (cells' := zl_ce 8 ((zs_tt S (i + 1)).1.1 7 8 0) - zl_ce 8 (S.1 7 8 0)) (slots' := zl_sl 8 ((zs_tt S (i + 1)).1.1 7 8 0) - zl_sl 8 (S.1 7 8 0)) (by rw [d3, e7]; omega) (by rw [d3, e7]; omega) ?_
            exact ih13 (i + 1) X2 (by omega) (zl_X_tr hX1 (by rw [eT]; exact q1)) (by omega) _ _ (by rw [eT]; exact hG) hS ls (lv_sub hl [3, 1, 4, 5, 0] rfl)
  refine zw_cs (cells' := zl_ce 8 ((zs_tt S 0).1.1 7 8 0) - zl_ce 8 (S.1 7 8 0)) (slots' := zl_sl 8 ((zs_tt S 0).1.1 7 8 0) - zl_sl 8 (S.1 7 8 0)) (Nat.sub_self _).symm (Nat.sub_self _).symm ?_
  exact loop13 (_ + 1) 0 X (Nat.zero_le _) (zl_X_same hR8) (Nat.lt_succ_self _) _ _ hG hS ls (lv_sub hl [4, 3, 2, 1, 0] rfl)
