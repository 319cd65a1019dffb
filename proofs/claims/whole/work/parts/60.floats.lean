set_option maxRecDepth 100000 in
set_option maxHeartbeats 4000000 in
theorem c_X6_meanLayer (l : Launch) (hl0 : l.stackTraces = false) {E : za_E} {b : Nat} {ad : za_Ad} {S X T Y : za_S} {ow : Int64} {dw : UInt64}  (hC : zs_C S X)  : vx_Met l yX6_meanLayer wsX6_meanLayer ({ frames := 6, cells := 3, slots := 18, locals := 82 } : Room) (za_Pc E b (ad, S, X, T, Y, ow, dw) [.ref (ad 0 0)]) (za_Qd E b (fun r u => zo_md S = 0 ∧ r = zs_md S ∧ u = (ad, S, X, T, Y, ow, dw))) (za_X E b (fun En u => (En = "java/lang/ArithmeticException" ∧ zo_md S = 1 ∧ u = (ad, S, X, T, Y, ow, dw)))) (3) (18) (za_A b) := by
  refine zx_met (ccm := cX6_meanLayer) (maxL := 11) (ret := (some .double)) (ws' := _) (own := RX6) (lv := [(0, .ref (ad 0 0))]) (by decide) rfl rfl rfl (by simp [lg_sl, Value.category]) ?_
  intro pg en s m below meth c hx hb hml hr hown hts hlocks htb hK hZ hb0 hG hS ls hl
  have hf11 := hts (.fieldLink RX6 11 "VideoBridge" "everybody" "[LVideoBridge$Person;") (by decide +kernel)
  have hf145 := hts (.fieldLink RX6 145 "VideoBridge$Person" "number" "I") (by decide +kernel)
  have hf186 := hts (.fieldLink RX6 186 "VideoBridge$Person" "layers" "LVideoBridge$Layers;") (by decide +kernel)
  have hiARE := hts (.initialized "java/lang/ArithmeticException") (by decide +kernel)
  have hk209 := hts (.classLink RX6 209 "java/lang/ArithmeticException") (by decide +kernel)
  have hinX6 : ∀ w ∈ u_ws RX6 TX6 11, w ∈ wsX6_meanLayer := by decide +kernel
  have hinX2 : ∀ w ∈ u_ws RX2 TX2 8, w ∈ wsX6_meanLayer := by decide +kernel
  skip
  obtain ⟨hI, hJ, hBX, hok, hRw⟩ := hC
  have hBS := hI.B
  have hc1 := hI.c
  refine zb_iconst (n := 0) hx hb dX6_meanLayer_0 (by decide) ?_
  refine lv_istore_n (lv' := [(1, .int (nI 0)), (0, .ref (ad 0 0))]) hx hb dX6_meanLayer_1 rfl hl (by decide) rfl (fun ls hl => ?_)
  refine zb_iconst (n := 0) hx hb dX6_meanLayer_2 (by decide) ?_
  refine lv_istore_n (lv' := [(2, .int (nI 0)), (1, .int (nI 0)), (0, .ref (ad 0 0))]) hx hb dX6_meanLayer_3 rfl hl (by decide) rfl (fun ls hl => ?_)
  refine lv_aload_n hx hb dX6_meanLayer_4 rfl (lv_at hl 2 rfl) ?_
  refine zg_BR_everybody hx hb hts hinX6 hown hf11 hK hG dX6_meanLayer_5 ?_
  refine lv_astore_n (lv' := [(3, .ref (ad 1 0)), (2, .int (nI 0)), (1, .int (nI 0)), (0, .ref (ad 0 0))]) hx hb dX6_meanLayer_8 rfl hl (by decide) rfl (fun ls hl => ?_)
  refine lv_aload_n hx hb dX6_meanLayer_9 rfl (lv_at hl 0 rfl) ?_
  refine zl_EV hx hb hK hG dX6_meanLayer_10 ?_
  refine lv_istore (lv' := [(4, .int (nI 10)), (3, .ref (ad 1 0)), (2, .int (nI 0)), (1, .int (nI 0)), (0, .ref (ad 0 0))]) hx hb dX6_meanLayer_11 hl (by decide) rfl (fun ls hl => ?_)
  refine zb_iconst (n := 0) hx hb dX6_meanLayer_13 (by decide) ?_
  refine lv_istore (lv' := [(5, .int (nI 0)), (4, .int (nI 10)), (3, .ref (ad 1 0)), (2, .int (nI 0)), (1, .int (nI 0)), (0, .ref (ad 0 0))]) hx hb dX6_meanLayer_14 hl (by decide) rfl (fun ls hl => ?_)
  have loop16 : ∀ (N : Nat) (i : Nat), (i ≤ 10) → 10 - i < N → ∀ (H : Heap) (locs : List Loc), za_G E b (ad, S, X, T, Y, ow, dw) H → va_S (za_A b) s.heap H locs → ∀ ls : Array Slot, lv_has ls 11 [(0, .ref (ad 0 0)), (1, .int (nI (zs_mL S i))), (2, .int (nI (zs_mP S i))), (3, .ref (ad 1 0)), (4, .int (nI 10)), (5, .int (nI i))] → W pg l en ({ frames := 6, cells := 3, slots := 18, locals := 82 } : Room) s m ([.ref (ad 0 0)] : List Value).toArray below meth c H locs (0) (0) (vx_MQ below (za_Qd E b (fun r u => zo_md S = 0 ∧ r = zs_md S ∧ u = (ad, S, X, T, Y, ow, dw))) (za_X E b (fun En u => (En = "java/lang/ArithmeticException" ∧ zo_md S = 1 ∧ u = (ad, S, X, T, Y, ow, dw)))) ([.ref (ad 0 0)] : List Value).toArray s (3) (18) (za_A b)) (F0 m 16 ls []) := by
    intro N
    induction N with
    | zero => intro i hi hN; exact absurd hN (Nat.not_lt_zero _)
    | succ N ih16 =>
      intro i hi hN H locs hG hS ls hl
      refine lv_iload hx hb dX6_meanLayer_16 (lv_at hl 5 rfl) ?_
      refine lv_iload hx hb dX6_meanLayer_18 (lv_at hl 4 rfl) ?_
      refine zb_icmp_ge (x := i) (y := 10) (tgt := 115) hx hb (by omega) (by omega) dX6_meanLayer_20 (by decide) (fun c_20 => ?_) (fun c_20 => ?_)
      · obtain rfl : i = 10 := by omega
        have hmp := zs_mP_le S 10
        refine lv_iload_n hx hb dX6_meanLayer_115 rfl (lv_at hl 2 rfl) ?_
        refine zb_if_ne (x := zs_mP S 10) (tgt := 129) hx hb (by omega) dX6_meanLayer_116 (by decide) (fun c_116 => ?_) (fun c_116 => ?_)
        · refine lv_iload_n hx hb dX6_meanLayer_129 rfl (lv_at hl 1 rfl) ?_
          refine lv_i2d hx hb dX6_meanLayer_130 ?_
          refine lv_iload_n hx hb dX6_meanLayer_131 rfl (lv_at hl 2 rfl) ?_
          refine lv_i2d hx hb dX6_meanLayer_132 ?_
          refine lv_ddiv hx hb dX6_meanLayer_133 (zf_n64 (zs_md_n c_116)) ?_
          exact vx_ret (zm_dret hx hb hr hlocks hG hS (by omega) (by omega) ⟨if_neg c_116, rfl, rfl⟩ dX6_meanLayer_134)
        · exact zt_throw (cls := "java/lang/ArithmeticException") (text := "no two people are in one room") (ik := 209) (is := 211) (ic := 213) hx hb hl0 hZ hG hS hml hl hown htb hlocks (by simp [za_exs]) (by simp [za_texts]) (by decide +kernel) hk209 hiARE (fun w h => hts w (by simp only [wsX6_meanLayer, List.mem_cons, List.mem_append, h, or_true, true_or])) zt_ng_ARE zt_gd_ARE dX6_meanLayer_119 dX6_meanLayer_122 dX6_meanLayer_123 dX6_meanLayer_125 dX6_meanLayer_128 (by decide) (by decide) (by first | (show _ + 1 ≤ _; omega) | decide) (by first | (show _ + 6 ≤ _; omega) | decide) (by omega) (by omega) ⟨rfl, if_pos c_116, rfl⟩
      · refine lv_aload_n hx hb dX6_meanLayer_23 rfl (lv_at hl 3 rfl) ?_
        refine lv_iload hx hb dX6_meanLayer_24 (lv_at hl 5 rfl) ?_
        refine zld_EV (r := X.2 1 i 0) hx hb hK hG (by omega) rfl dX6_meanLayer_26 ?_
        refine zb_ostore (ad := ad) (κ := 8) (r := X.2 1 i 0) (lv' := [(6, za_o ad 8 (X.2 1 i 0)), (0, .ref (ad 0 0)), (1, .int (nI (zs_mL S i))), (2, .int (nI (zs_mP S i))), (3, .ref (ad 1 0)), (4, .int (nI 10)), (5, .int (nI i))]) hx hb dX6_meanLayer_27 hl (by decide) rfl (fun ls hl => ?_)
        refine lv_aload_n hx hb dX6_meanLayer_29 rfl (lv_at hl 1 rfl) ?_
        refine zg_BR_everybody hx hb hts hinX6 hown hf11 hK hG dX6_meanLayer_30 ?_
        refine lv_astore (lv' := [(7, .ref (ad 1 0)), (6, za_o ad 8 (X.2 1 i 0)), (0, .ref (ad 0 0)), (1, .int (nI (zs_mL S i))), (2, .int (nI (zs_mP S i))), (3, .ref (ad 1 0)), (4, .int (nI 10)), (5, .int (nI i))]) hx hb dX6_meanLayer_33 hl (by decide) (by first | rfl | (simp [za_cat]; done) | (simp [za_cat]; rfl)) (fun ls hl => ?_)
        refine lv_aload hx hb dX6_meanLayer_35 (lv_at hl 0 rfl) ?_
        refine zl_EV hx hb hK hG dX6_meanLayer_37 ?_
        refine lv_istore (lv' := [(8, .int (nI 10)), (7, .ref (ad 1 0)), (6, za_o ad 8 (X.2 1 i 0)), (0, .ref (ad 0 0)), (1, .int (nI (zs_mL S i))), (2, .int (nI (zs_mP S i))), (3, .ref (ad 1 0)), (4, .int (nI 10)), (5, .int (nI i))]) hx hb dX6_meanLayer_38 hl (by decide) rfl (fun ls hl => ?_)
        refine zb_iconst (n := 0) hx hb dX6_meanLayer_40 (by decide) ?_
        refine lv_istore (lv' := [(9, .int (nI 0)), (8, .int (nI 10)), (7, .ref (ad 1 0)), (6, za_o ad 8 (X.2 1 i 0)), (0, .ref (ad 0 0)), (1, .int (nI (zs_mL S i))), (2, .int (nI (zs_mP S i))), (3, .ref (ad 1 0)), (4, .int (nI 10)), (5, .int (nI i))]) hx hb dX6_meanLayer_41 hl (by decide) rfl (fun ls hl => ?_)
        have loop43 : ∀ (N : Nat) (j : Nat), (j ≤ 10) → 10 - j < N → ∀ (H : Heap) (locs : List Loc), za_G E b (ad, S, X, T, Y, ow, dw) H → va_S (za_A b) s.heap H locs → ∀ ls : Array Slot, lv_has ls 11 [(0, .ref (ad 0 0)), (1, .int (nI (zs_mL S i + zs_l1 S i j))), (2, .int (nI (zs_mP S i + zs_p1 S i j))), (3, .ref (ad 1 0)), (4, .int (nI 10)), (5, .int (nI i)), (6, za_o ad 8 (X.2 1 i 0)), (7, .ref (ad 1 0)), (8, .int (nI 10)), (9, .int (nI j))] → W pg l en ({ frames := 6, cells := 3, slots := 18, locals := 82 } : Room) s m ([.ref (ad 0 0)] : List Value).toArray below meth c H locs (0) (0) (vx_MQ below (za_Qd E b (fun r u => zo_md S = 0 ∧ r = zs_md S ∧ u = (ad, S, X, T, Y, ow, dw))) (za_X E b (fun En u => (En = "java/lang/ArithmeticException" ∧ zo_md S = 1 ∧ u = (ad, S, X, T, Y, ow, dw)))) ([.ref (ad 0 0)] : List Value).toArray s (3) (18) (za_A b)) (F0 m 43 ls []) := by
          intro N
          induction N with
          | zero => intro j hj hN; exact absurd hN (Nat.not_lt_zero _)
          | succ N ih43 =>
            intro j hj hN H locs hG hS ls hl
            refine lv_iload hx hb dX6_meanLayer_43 (lv_at hl 9 rfl) ?_
            refine lv_iload hx hb dX6_meanLayer_45 (lv_at hl 8 rfl) ?_
            refine zb_icmp_ge (x := j) (y := 10) (tgt := 109) hx hb (by omega) (by omega) dX6_meanLayer_47 (by decide) (fun c_47 => ?_) (fun c_47 => ?_)
            · obtain rfl : j = 10 := by omega
              rw [← (zs_mP_s S i).1, ← (zs_mP_s S i).2] at hl
              refine zb_iinc (n := 1) (k := 5) (lv' := [(5, .int (nI (i + 1))), (0, .ref (ad 0 0)), (1, .int (nI (zs_mL S (i + 1)))), (2, .int (nI (zs_mP S (i + 1)))), (3, .ref (ad 1 0)), (4, .int (nI 10)), (6, za_o ad 8 (X.2 1 i 0)), (7, .ref (ad 1 0)), (8, .int (nI 10)), (9, .int (nI 10))]) hx hb dX6_meanLayer_109 hl rfl (by decide) (by decide) rfl (fun ls hl => ?_)
              refine zb_goto (tgt := 16) hx hb dX6_meanLayer_112 (by decide) ?_
              exact ih16 (i + 1) (by omega) (by omega) _ _ hG hS ls (lv_sub hl [1, 2, 3, 4, 5, 0] rfl)
            · refine lv_aload hx hb dX6_meanLayer_50 (lv_at hl 7 rfl) ?_
              refine lv_iload hx hb dX6_meanLayer_52 (lv_at hl 9 rfl) ?_
              refine zld_EV (r := X.2 1 j 0) hx hb hK hG (by omega) rfl dX6_meanLayer_54 ?_
              refine zb_ostore (ad := ad) (κ := 8) (r := X.2 1 j 0) (lv' := [(10, za_o ad 8 (X.2 1 j 0)), (0, .ref (ad 0 0)), (1, .int (nI (zs_mL S i + zs_l1 S i j))), (2, .int (nI (zs_mP S i + zs_p1 S i j))), (3, .ref (ad 1 0)), (4, .int (nI 10)), (5, .int (nI i)), (6, za_o ad 8 (X.2 1 i 0)), (7, .ref (ad 1 0)), (8, .int (nI 10)), (9, .int (nI j))]) hx hb dX6_meanLayer_55 hl (by decide) rfl (fun ls hl => ?_)
              refine zb_oload hx hb dX6_meanLayer_57 (lv_at hl 7 rfl) ?_
              refine zb_ifnull (κ := 8) (r := X.2 1 i 0) (tgt := 103) hx hb dX6_meanLayer_59 (by decide) (fun c_59 => ?_) (fun x_1 c_59 => ?_)
              · rw [c_59] at hl
                have hl : lv_has ls 11 [(10, za_o ad 8 (X.2 1 j 0)), (0, .ref (ad 0 0)), (1, .int (nI (zs_mL S i + zs_l1 S i j))), (2, .int (nI (zs_mP S i + zs_p1 S i j))), (3, .ref (ad 1 0)), (4, .int (nI 10)), (5, .int (nI i)), (6, za_o ad 8 (X.2 1 i 0)), (7, .ref (ad 1 0)), (8, .int (nI 10)), (9, .int (nI j))] := by
                  rw [c_59]
                  exact hl
                have hz : ¬ zt_ S i j := by
                  intro ⟨y1, y2, y3, y4⟩
                  first | exact hJ.en c_59 y1 | exact hJ.en c_64 y2 | exact y3 (Option.some.inj c_71) | (rw [zs_b0 c_81] at y4; cases y4)
                rw [show zs_mL S i + zs_l1 S i j = zs_mL S i + zs_l1 S i (j + 1) from by rw [(zs_p1_no hz).2], show zs_mP S i + zs_p1 S i j = zs_mP S i + zs_p1 S i (j + 1) from by rw [(zs_p1_no hz).1]] at hl
                refine zb_iinc (n := 1) (k := 10) (lv' := [(9, .int (nI (j + 1))), (10, za_o ad 8 (X.2 1 j 0)), (0, .ref (ad 0 0)), (1, .int (nI (zs_mL S i + zs_l1 S i (j + 1)))), (2, .int (nI (zs_mP S i + zs_p1 S i (j + 1)))), (3, .ref (ad 1 0)), (4, .int (nI 10)), (5, .int (nI i)), (6, za_o ad 8 (X.2 1 i 0)), (7, .ref (ad 1 0)), (8, .int (nI 10))]) hx hb dX6_meanLayer_103 hl rfl (by decide) (by decide) rfl (fun ls hl => ?_)
                refine zb_goto (tgt := 43) hx hb dX6_meanLayer_106 (by decide) ?_
                exact ih43 (j + 1) (by omega) (by omega) _ _ hG hS ls (lv_sub hl [2, 3, 4, 5, 6, 7, 8, 9, 10, 0] rfl)
              · rw [c_59] at hl
                have hyi : x_1 = i := (hJ.e c_59).1
                have hin : i < S.1 0 0 0 := (hJ.e c_59).2
                rw [hyi] at hl
                have hv_2 : ∀ z, X.2 1 i 0 = some z → z < X.1 5 0 0 := (hJ.ev i)
                refine zb_oload hx hb dX6_meanLayer_62 (lv_at hl 0 rfl) ?_
                refine zb_ifnull (κ := 8) (r := X.2 1 j 0) (tgt := 103) hx hb dX6_meanLayer_64 (by decide) (fun c_64 => ?_) (fun x_3 c_64 => ?_)
                · rw [c_64] at hl
                  have hl : lv_has ls 11 [(10, .null), (0, .ref (ad 0 0)), (1, .int (nI (zs_mL S i + zs_l1 S i j))), (2, .int (nI (zs_mP S i + zs_p1 S i j))), (3, .ref (ad 1 0)), (4, .int (nI 10)), (5, .int (nI i)), (6, za_o ad 8 (X.2 1 i 0)), (7, .ref (ad 1 0)), (8, .int (nI 10)), (9, .int (nI j))] := by
                    rw [show X.2 1 i 0 = some i from by rw [c_59, hyi]]
                    exact hl
                  have hz : ¬ zt_ S i j := by
                    intro ⟨y1, y2, y3, y4⟩
                    first | exact hJ.en c_59 y1 | exact hJ.en c_64 y2 | exact y3 (Option.some.inj c_71) | (rw [zs_b0 c_81] at y4; cases y4)
                  rw [show zs_mL S i + zs_l1 S i j = zs_mL S i + zs_l1 S i (j + 1) from by rw [(zs_p1_no hz).2], show zs_mP S i + zs_p1 S i j = zs_mP S i + zs_p1 S i (j + 1) from by rw [(zs_p1_no hz).1]] at hl
                  refine zb_iinc (n := 1) (k := 10) (lv' := [(9, .int (nI (j + 1))), (10, .null), (0, .ref (ad 0 0)), (1, .int (nI (zs_mL S i + zs_l1 S i (j + 1)))), (2, .int (nI (zs_mP S i + zs_p1 S i (j + 1)))), (3, .ref (ad 1 0)), (4, .int (nI 10)), (5, .int (nI i)), (6, za_o ad 8 (X.2 1 i 0)), (7, .ref (ad 1 0)), (8, .int (nI 10))]) hx hb dX6_meanLayer_103 hl rfl (by decide) (by decide) rfl (fun ls hl => ?_)
                  refine zb_goto (tgt := 43) hx hb dX6_meanLayer_106 (by decide) ?_
                  exact ih43 (j + 1) (by omega) (by omega) _ _ hG hS ls (lv_sub hl [2, 3, 4, 5, 6, 7, 8, 9, 10, 0] rfl)
                · rw [c_64] at hl
                  have hyj : x_3 = j := (hJ.e c_64).1
                  have hjn : j < S.1 0 0 0 := (hJ.e c_64).2
                  rw [hyj] at hl
                  have hv_4 : ∀ z, X.2 1 j 0 = some z → z < X.1 5 0 0 := (hJ.ev j)
                  refine lv_aload hx hb dX6_meanLayer_67 (lv_at hl 7 rfl) ?_
                  refine lv_aload hx hb dX6_meanLayer_69 (lv_at hl 0 rfl) ?_
                  refine zb_acmp_eq (tgt := 103) hx hb hG 8 (by decide) (some i) (some j) (by rintro _ ⟨⟩; exact (hJ.pe hin)) (by rintro _ ⟨⟩; exact (hJ.pe hjn)) dX6_meanLayer_71 (by decide) (fun c_71 => ?_) (fun c_71 => ?_)
                  · have hl : lv_has ls 11 [(10, .ref (ad 8 j)), (0, .ref (ad 0 0)), (1, .int (nI (zs_mL S i + zs_l1 S i j))), (2, .int (nI (zs_mP S i + zs_p1 S i j))), (3, .ref (ad 1 0)), (4, .int (nI 10)), (5, .int (nI i)), (6, za_o ad 8 (X.2 1 i 0)), (7, .ref (ad 1 0)), (8, .int (nI 10)), (9, .int (nI j))] := by
                      rw [show X.2 1 i 0 = some i from by rw [c_59, hyi]]
                      exact hl
                    have hz : ¬ zt_ S i j := by
                      intro ⟨y1, y2, y3, y4⟩
                      first | exact hJ.en c_59 y1 | exact hJ.en c_64 y2 | exact y3 (Option.some.inj c_71) | (rw [zs_b0 c_81] at y4; cases y4)
                    rw [show zs_mL S i + zs_l1 S i j = zs_mL S i + zs_l1 S i (j + 1) from by rw [(zs_p1_no hz).2], show zs_mP S i + zs_p1 S i j = zs_mP S i + zs_p1 S i (j + 1) from by rw [(zs_p1_no hz).1]] at hl
                    refine zb_iinc (n := 1) (k := 10) (lv' := [(9, .int (nI (j + 1))), (10, .ref (ad 8 j)), (0, .ref (ad 0 0)), (1, .int (nI (zs_mL S i + zs_l1 S i (j + 1)))), (2, .int (nI (zs_mP S i + zs_p1 S i (j + 1)))), (3, .ref (ad 1 0)), (4, .int (nI 10)), (5, .int (nI i)), (6, za_o ad 8 (X.2 1 i 0)), (7, .ref (ad 1 0)), (8, .int (nI 10))]) hx hb dX6_meanLayer_103 hl rfl (by decide) (by decide) rfl (fun ls hl => ?_)
                    refine zb_goto (tgt := 43) hx hb dX6_meanLayer_106 (by decide) ?_
                    exact ih43 (j + 1) (by omega) (by omega) _ _ hG hS ls (lv_sub hl [2, 3, 4, 5, 6, 7, 8, 9, 10, 0] rfl)
                  · refine lv_aload hx hb dX6_meanLayer_74 (lv_at hl 7 rfl) ?_
                    refine lv_aload hx hb dX6_meanLayer_76 (lv_at hl 0 rfl) ?_
                    refine zc_Si (As := [.ref (ad 8 i), .ref (ad 8 j)]) (rest := []) hK hZ hb0 hG hS hx hb hml hown hts (c_X6_areTogether l (some i) (some j) (by rintro _ ⟨⟩; exact hJ.pe hin) (by rintro _ ⟨⟩; exact hJ.pe hjn) (fun a r ha e => hJ.ro (hI.ro (by rw [hJ.2.2.2.1] at ha; exact ha) e))) (cwS 2 hts gX6_meanLayer_X6_areTogether rfl rfl rfl (by decide +kernel) ⟨Nat.le_of_ble_eq_true rfl, Nat.le_of_ble_eq_true rfl⟩) rfl hl rfl (Nat.le_of_ble_eq_true rfl) dX6_meanLayer_78 ⟨Nat.le_of_ble_eq_true rfl, Nat.le_of_ble_eq_true rfl⟩ (fun r_78 u_78 H locs hp hG hS => ?_)
                    obtain ⟨rfl, rfl⟩ := hp
                    have hbl := zs_bl (zs_tg S (some i) (some j))
                    refine zb_if_eq (x := if zs_tg S (some i) (some j) = true then 1 else 0) (tgt := 103) hx hb (by omega) dX6_meanLayer_81 (by decide) (fun c_81 => ?_) (fun c_81 => ?_)
                    · have hl : lv_has ls 11 [(10, .ref (ad 8 j)), (0, .ref (ad 0 0)), (1, .int (nI (zs_mL S i + zs_l1 S i j))), (2, .int (nI (zs_mP S i + zs_p1 S i j))), (3, .ref (ad 1 0)), (4, .int (nI 10)), (5, .int (nI i)), (6, za_o ad 8 (X.2 1 i 0)), (7, .ref (ad 1 0)), (8, .int (nI 10)), (9, .int (nI j))] := by
                        rw [show X.2 1 i 0 = some i from by rw [c_59, hyi]]
                        exact hl
                      have hz : ¬ zt_ S i j := by
                        intro ⟨y1, y2, y3, y4⟩
                        first | exact hJ.en c_59 y1 | exact hJ.en c_64 y2 | exact y3 (Option.some.inj c_71) | (rw [zs_b0 c_81] at y4; cases y4)
                      rw [show zs_mL S i + zs_l1 S i j = zs_mL S i + zs_l1 S i (j + 1) from by rw [(zs_p1_no hz).2], show zs_mP S i + zs_p1 S i j = zs_mP S i + zs_p1 S i (j + 1) from by rw [(zs_p1_no hz).1]] at hl
                      refine zb_iinc (n := 1) (k := 10) (lv' := [(9, .int (nI (j + 1))), (10, .ref (ad 8 j)), (0, .ref (ad 0 0)), (1, .int (nI (zs_mL S i + zs_l1 S i (j + 1)))), (2, .int (nI (zs_mP S i + zs_p1 S i (j + 1)))), (3, .ref (ad 1 0)), (4, .int (nI 10)), (5, .int (nI i)), (6, za_o ad 8 (X.2 1 i 0)), (7, .ref (ad 1 0)), (8, .int (nI 10))]) hx hb dX6_meanLayer_103 hl rfl (by decide) (by decide) rfl (fun ls hl => ?_)
                      refine zb_goto (tgt := 43) hx hb dX6_meanLayer_106 (by decide) ?_
                      exact ih43 (j + 1) (by omega) (by omega) _ _ hG hS ls (lv_sub hl [2, 3, 4, 5, 6, 7, 8, 9, 10, 0] rfl)
                    · refine lv_iload_n hx hb dX6_meanLayer_84 rfl (lv_at hl 2 rfl) ?_
                      refine lv_aload hx hb dX6_meanLayer_85 (lv_at hl 7 rfl) ?_
                      refine zg_PE_layers hx hb hts hinX2 hown hf186 hK hG i (hJ.pe hin) dX6_meanLayer_87 ?_
                      refine lv_aload hx hb dX6_meanLayer_90 (lv_at hl 0 rfl) ?_
                      refine zg_PE_number hx hb hts hinX2 hown hf145 hK hG j (hJ.pe hjn) dX6_meanLayer_92 ?_
                      refine zc_Vi (As := [.int (nI j)]) (rest := [.int (nI (zs_mL S i + zs_l1 S i j))]) hK hZ hb0 hG hS hx hb hml hown hts (c_X1_of l i j (Or.inl (hJ.pe hin)) (by omega)) (cwV 1 hts gX6_meanLayer_X1_of rfl rfl rfl (by decide +kernel) ⟨Nat.le_of_ble_eq_true rfl, Nat.le_of_ble_eq_true rfl⟩) (za_recv (q := (RX1, TX1, 1)) hK hG 6 i (show i < X.1 5 0 0 ∨ i = 10 from (Or.inl (hJ.pe hin))) rfl rfl rfl) rfl hl rfl (Nat.le_of_ble_eq_true rfl) dX6_meanLayer_95 ⟨Nat.le_of_ble_eq_true rfl, Nat.le_of_ble_eq_true rfl⟩ (fun r_95 u_95 H locs hp hG hS => ?_)
                      obtain ⟨rfl, rfl⟩ := hp
                      refine zb_iadd hx hb dX6_meanLayer_98 ?_
                      refine lv_istore_n (lv' := [(1, .int (nI ((zs_mL S i + zs_l1 S i j) + (X.1 0 i j)))), (10, .ref (ad 8 j)), (0, .ref (ad 0 0)), (2, .int (nI (zs_mP S i + zs_p1 S i j))), (3, .ref (ad 1 0)), (4, .int (nI 10)), (5, .int (nI i)), (6, .ref (ad 8 i)), (7, .ref (ad 1 0)), (8, .int (nI 10)), (9, .int (nI j))]) hx hb dX6_meanLayer_99 rfl hl (by decide) rfl (fun ls hl => ?_)
                      refine zb_iinc (n := 1) (k := 3) (lv' := [(2, .int (nI ((zs_mP S i + zs_p1 S i j) + 1))), (1, .int (nI ((zs_mL S i + zs_l1 S i j) + (X.1 0 i j)))), (10, .ref (ad 8 j)), (0, .ref (ad 0 0)), (3, .ref (ad 1 0)), (4, .int (nI 10)), (5, .int (nI i)), (6, .ref (ad 8 i)), (7, .ref (ad 1 0)), (8, .int (nI 10)), (9, .int (nI j))]) hx hb dX6_meanLayer_100 hl rfl (by decide) (by decide) rfl (fun ls hl => ?_)
                      have hl : lv_has ls 11 [(2, .int (nI ((zs_mP S i + zs_p1 S i j) + 1))), (1, .int (nI ((zs_mL S i + zs_l1 S i j) + (X.1 0 i j)))), (10, .ref (ad 8 j)), (0, .ref (ad 0 0)), (3, .ref (ad 1 0)), (4, .int (nI 10)), (5, .int (nI i)), (6, za_o ad 8 (X.2 1 i 0)), (7, .ref (ad 1 0)), (8, .int (nI 10)), (9, .int (nI j))] := by
                        rw [show X.2 1 i 0 = some i from by rw [c_59, hyi]]
                        exact hl
                      have hz : zt_ S i j := ⟨hin, hjn, fun h => c_71 (by rw [h]), zs_b1 c_81⟩
                      rw [show (zs_mL S i + zs_l1 S i j) + (X.1 0 i j) = zs_mL S i + zs_l1 S i (j + 1) from by rw [(zs_p1_yes hz).2, hok.1 i (by omega) hin j (by omega)]; omega, show (zs_mP S i + zs_p1 S i j) + 1 = zs_mP S i + zs_p1 S i (j + 1) from by rw [(zs_p1_yes hz).1]; omega] at hl
                      refine zb_iinc (n := 1) (k := 10) (lv' := [(9, .int (nI (j + 1))), (2, .int (nI (zs_mP S i + zs_p1 S i (j + 1)))), (1, .int (nI (zs_mL S i + zs_l1 S i (j + 1)))), (10, .ref (ad 8 j)), (0, .ref (ad 0 0)), (3, .ref (ad 1 0)), (4, .int (nI 10)), (5, .int (nI i)), (6, za_o ad 8 (X.2 1 i 0)), (7, .ref (ad 1 0)), (8, .int (nI 10))]) hx hb dX6_meanLayer_103 hl rfl (by decide) (by decide) rfl (fun ls hl => ?_)
                      refine zb_goto (tgt := 43) hx hb dX6_meanLayer_106 (by decide) ?_
                      exact ih43 (j + 1) (by omega) (by omega) _ _ hG hS ls (lv_sub hl [4, 2, 1, 5, 6, 7, 8, 9, 10, 0] rfl)
        exact loop43 (_ + 1) 0 (Nat.zero_le _) (Nat.lt_succ_self _) _ _ hG hS ls (lv_sub hl [4, 5, 6, 7, 8, 9, 3, 2, 1, 0] rfl)
  exact loop16 (_ + 1) 0 (Nat.zero_le _) (Nat.lt_succ_self _) _ _ hG hS ls (lv_sub hl [5, 4, 3, 2, 1, 0] rfl)

set_option maxRecDepth 100000 in
set_option maxHeartbeats 4000000 in
theorem c_X6_usedShare (l : Launch) (hl0 : l.stackTraces = false) {E : za_E} {b : Nat} {ad : za_Ad} {S X T Y : za_S} {ow : Int64} {dw : UInt64}  (hC : zs_C S X)  : vx_Met l yX6_usedShare wsX6_usedShare ({ frames := 6, cells := 3, slots := 18, locals := 82 } : Room) (za_Pc E b (ad, S, X, T, Y, ow, dw) [.ref (ad 0 0)]) (za_Qf E b (fun r u => zo_shr S = 0 ∧ r = zs_shr S ∧ u = (ad, S, X, T, Y, ow, dw))) (za_X E b (fun En u => (En = "java/lang/ArithmeticException" ∧ zo_shr S = 1 ∧ u = (ad, S, X, T, Y, ow, dw)))) (3) (18) (za_A b) := by
  refine zx_met (ccm := cX6_usedShare) (maxL := 6) (ret := (some .float)) (ws' := _) (own := RX6) (lv := [(0, .ref (ad 0 0))]) (by decide) rfl rfl rfl (by simp [lg_sl, Value.category]) ?_
  intro pg en s m below meth c hx hb hml hr hown hts hlocks htb hK hZ hb0 hG hS ls hl
  have hf11 := hts (.fieldLink RX6 11 "VideoBridge" "everybody" "[LVideoBridge$Person;") (by decide +kernel)
  have hf216 := hts (.fieldLink RX6 216 "VideoBridge" "usedByAll" "J") (by decide +kernel)
  have hf64 := hts (.fieldLink RX6 64 "VideoBridge$Person" "budget" "I") (by decide +kernel)
  have hiARE := hts (.initialized "java/lang/ArithmeticException") (by decide +kernel)
  have hk209 := hts (.classLink RX6 209 "java/lang/ArithmeticException") (by decide +kernel)
  have hinX6 : ∀ w ∈ u_ws RX6 TX6 11, w ∈ wsX6_usedShare := by decide +kernel
  have hinX2 : ∀ w ∈ u_ws RX2 TX2 8, w ∈ wsX6_usedShare := by decide +kernel
  skip
  obtain ⟨hI, hJ, hBX, hok, hRw⟩ := hC
  have hBS := hI.B
  have hc1 := hI.c
  refine zb_iconst (n := 0) hx hb dX6_usedShare_0 (by decide) ?_
  refine lv_istore_n (lv' := [(1, .int (nI 0)), (0, .ref (ad 0 0))]) hx hb dX6_usedShare_1 rfl hl (by decide) rfl (fun ls hl => ?_)
  refine lv_aload_n hx hb dX6_usedShare_2 rfl (lv_at hl 1 rfl) ?_
  refine zg_BR_everybody hx hb hts hinX6 hown hf11 hK hG dX6_usedShare_3 ?_
  refine lv_astore_n (lv' := [(2, .ref (ad 1 0)), (1, .int (nI 0)), (0, .ref (ad 0 0))]) hx hb dX6_usedShare_6 rfl hl (by decide) rfl (fun ls hl => ?_)
  refine lv_aload_n hx hb dX6_usedShare_7 rfl (lv_at hl 0 rfl) ?_
  refine zl_EV hx hb hK hG dX6_usedShare_8 ?_
  refine lv_istore_n (lv' := [(3, .int (nI 10)), (2, .ref (ad 1 0)), (1, .int (nI 0)), (0, .ref (ad 0 0))]) hx hb dX6_usedShare_9 rfl hl (by decide) rfl (fun ls hl => ?_)
  refine zb_iconst (n := 0) hx hb dX6_usedShare_10 (by decide) ?_
  refine lv_istore (lv' := [(4, .int (nI 0)), (3, .int (nI 10)), (2, .ref (ad 1 0)), (1, .int (nI 0)), (0, .ref (ad 0 0))]) hx hb dX6_usedShare_11 hl (by decide) rfl (fun ls hl => ?_)
  have loop13 : ∀ (N : Nat) (i : Nat), (i ≤ 10) → 10 - i < N → ∀ (H : Heap) (locs : List Loc), za_G E b (ad, S, X, T, Y, ow, dw) H → va_S (za_A b) s.heap H locs → ∀ ls : Array Slot, lv_has ls 6 [(0, .ref (ad 0 0)), (1, .int (nI (zs_bg S i))), (2, .ref (ad 1 0)), (3, .int (nI 10)), (4, .int (nI i))] → W pg l en ({ frames := 6, cells := 3, slots := 18, locals := 82 } : Room) s m ([.ref (ad 0 0)] : List Value).toArray below meth c H locs (0) (0) (vx_MQ below (za_Qf E b (fun r u => zo_shr S = 0 ∧ r = zs_shr S ∧ u = (ad, S, X, T, Y, ow, dw))) (za_X E b (fun En u => (En = "java/lang/ArithmeticException" ∧ zo_shr S = 1 ∧ u = (ad, S, X, T, Y, ow, dw)))) ([.ref (ad 0 0)] : List Value).toArray s (3) (18) (za_A b)) (F0 m 13 ls []) := by
    intro N
    induction N with
    | zero => intro i hi hN; exact absurd hN (Nat.not_lt_zero _)
    | succ N ih13 =>
      intro i hi hN H locs hG hS ls hl
      refine lv_iload hx hb dX6_usedShare_13 (lv_at hl 4 rfl) ?_
      refine lv_iload_n hx hb dX6_usedShare_15 rfl (lv_at hl 3 rfl) ?_
      refine zb_icmp_ge (x := i) (y := 10) (tgt := 44) hx hb (by omega) (by omega) dX6_usedShare_16 (by decide) (fun c_16 => ?_) (fun c_16 => ?_)
      · obtain rfl : i = 10 := by omega
        have hmp := zs_bg_le hI 10
        refine lv_iload_n hx hb dX6_usedShare_44 rfl (lv_at hl 1 rfl) ?_
        refine zb_if_ne (x := zs_bg S 10) (tgt := 58) hx hb (by omega) dX6_usedShare_45 (by decide) (fun c_45 => ?_) (fun c_45 => ?_)
        · refine lv_aload_n hx hb dX6_usedShare_58 rfl (lv_at hl 0 rfl) ?_
          refine zg_BR_usedByAll hx hb hts hinX6 hown hf216 hK hG (n := X.1 3 0 0) rfl dX6_usedShare_59 ?_
          refine lv_l2f hx hb dX6_usedShare_62 ?_
          refine lv_iload_n hx hb dX6_usedShare_63 rfl (lv_at hl 1 rfl) ?_
          refine lv_i2f hx hb dX6_usedShare_64 ?_
          refine lv_fdiv hx hb dX6_usedShare_65 (by rw [hok.2, zf_l2f (zs_ut S)]; exact zf_n32 (zs_shr_n hI c_45)) ?_
          exact vx_ret (zm_fret hx hb hr hlocks hG hS (by omega) (by omega) ⟨if_neg c_45, by rw [hok.2, zf_l2f (zs_ut S)]; rfl, rfl⟩ dX6_usedShare_66)
        · exact zt_throw (cls := "java/lang/ArithmeticException") (text := "the sum of all budgets is 0") (ik := 209) (is := 214) (ic := 213) hx hb hl0 hZ hG hS hml hl hown htb hlocks (by simp [za_exs]) (by simp [za_texts]) (by decide +kernel) hk209 hiARE (fun w h => hts w (by simp only [wsX6_usedShare, List.mem_cons, List.mem_append, h, or_true, true_or])) zt_ng_ARE zt_gd_ARE dX6_usedShare_48 dX6_usedShare_51 dX6_usedShare_52 dX6_usedShare_54 dX6_usedShare_57 (by decide) (by decide) (by first | (show _ + 1 ≤ _; omega) | decide) (by first | (show _ + 6 ≤ _; omega) | decide) (by omega) (by omega) ⟨rfl, if_pos c_45, rfl⟩
      · refine lv_aload_n hx hb dX6_usedShare_19 rfl (lv_at hl 2 rfl) ?_
        refine lv_iload hx hb dX6_usedShare_20 (lv_at hl 4 rfl) ?_
        refine zld_EV (r := X.2 1 i 0) hx hb hK hG (by omega) rfl dX6_usedShare_22 ?_
        refine zb_ostore (ad := ad) (κ := 8) (r := X.2 1 i 0) (lv' := [(5, za_o ad 8 (X.2 1 i 0)), (0, .ref (ad 0 0)), (1, .int (nI (zs_bg S i))), (2, .ref (ad 1 0)), (3, .int (nI 10)), (4, .int (nI i))]) hx hb dX6_usedShare_23 hl (by decide) rfl (fun ls hl => ?_)
        refine zb_oload hx hb dX6_usedShare_25 (lv_at hl 0 rfl) ?_
        refine zb_ifnull (κ := 8) (r := X.2 1 i 0) (tgt := 38) hx hb dX6_usedShare_27 (by decide) (fun c_27 => ?_) (fun x_1 c_27 => ?_)
        · rw [c_27] at hl
          rw [show zs_bg S i = zs_bg S (i + 1) from by rw [zs_bg_s, if_neg (hJ.en c_27)]; rfl] at hl
          refine zb_iinc (n := 1) (k := 5) (lv' := [(4, .int (nI (i + 1))), (5, .null), (0, .ref (ad 0 0)), (1, .int (nI (zs_bg S (i + 1)))), (2, .ref (ad 1 0)), (3, .int (nI 10))]) hx hb dX6_usedShare_38 hl rfl (by decide) (by decide) rfl (fun ls hl => ?_)
          refine zb_goto (tgt := 13) hx hb dX6_usedShare_41 (by decide) ?_
          exact ih13 (i + 1) (by omega) (by omega) _ _ hG hS ls (lv_sub hl [2, 3, 4, 5, 0] rfl)
        · rw [c_27] at hl
          have hyi : x_1 = i := (hJ.e c_27).1
          have hin : i < S.1 0 0 0 := (hJ.e c_27).2
          rw [hyi] at hl
          have hv_2 : ∀ z, X.2 1 i 0 = some z → z < X.1 5 0 0 := (hJ.ev i)
          refine lv_iload_n hx hb dX6_usedShare_30 rfl (lv_at hl 2 rfl) ?_
          refine lv_aload hx hb dX6_usedShare_31 (lv_at hl 0 rfl) ?_
          refine zg_PE_budget hx hb hts hinX2 hown hf64 hK hG i (hJ.pe hin) (n := S.1 1 i 0) rfl dX6_usedShare_33 ?_
          refine zb_iadd hx hb dX6_usedShare_36 ?_
          refine lv_istore_n (lv' := [(1, .int (nI ((zs_bg S i) + (S.1 1 i 0)))), (5, .ref (ad 8 i)), (0, .ref (ad 0 0)), (2, .ref (ad 1 0)), (3, .int (nI 10)), (4, .int (nI i))]) hx hb dX6_usedShare_37 rfl hl (by decide) rfl (fun ls hl => ?_)
          rw [show (zs_bg S i) + (S.1 1 i 0) = zs_bg S (i + 1) from by rw [zs_bg_s, if_pos hin]] at hl
          refine zb_iinc (n := 1) (k := 5) (lv' := [(4, .int (nI (i + 1))), (1, .int (nI (zs_bg S (i + 1)))), (5, .ref (ad 8 i)), (0, .ref (ad 0 0)), (2, .ref (ad 1 0)), (3, .int (nI 10))]) hx hb dX6_usedShare_38 hl rfl (by decide) (by decide) rfl (fun ls hl => ?_)
          refine zb_goto (tgt := 13) hx hb dX6_usedShare_41 (by decide) ?_
          exact ih13 (i + 1) (by omega) (by omega) _ _ hG hS ls (lv_sub hl [3, 1, 4, 5, 0] rfl)
  exact loop13 (_ + 1) 0 (Nat.zero_le _) (Nat.lt_succ_self _) _ _ hG hS ls (lv_sub hl [4, 3, 2, 1, 0] rfl)

set_option maxRecDepth 100000 in
set_option maxHeartbeats 4000000 in
theorem c_X7_meanLayer (l : Launch) {E : za_E} {b : Nat} {ad : za_Ad} {S X T Y : za_S} {ow : Int64} {dw : UInt64}  (hM : zs_M T Y) : Met l yX7_meanLayer wsX7_meanLayer ({ frames := 3, cells := 0, slots := 0, locals := 71 } : Room) (za_Pc E b (ad, S, X, T, Y, ow, dw) [.ref (ad 14 0)]) (za_Qd E b (fun r u => ∃ T2 Y2, u = (ad, S, X, T2, Y2, ow, dw) ∧ zy Y2 (zo_md T) ∧ ((zo_md T = 0 ∧ T2 = T ∧ r = zs_md T) ∨ (zo_md T ≠ 0 ∧ T2 = T)))) (0) (0) (za_A b) := by
  refine zm_met (ccm := cX7_meanLayer) (maxL := 5) (ret := (some .double)) (ws' := _) (own := RX7) (lv := [(0, .ref (ad 14 0))]) (by decide) rfl rfl rfl (by simp [lg_sl, Value.category]) ?_
  intro pg en s m below meth c hx hb hml hr hown hts hlocks hK hZ hb0 hG hS ls hl
  have hf19 := hts (.fieldLink RX7 19 "VideoBridgeModel" "roomOf" "[I") (by decide +kernel)
  have hf29 := hts (.fieldLink RX7 29 "VideoBridgeModel" "sizes" "[I") (by decide +kernel)
  have hf63 := hts (.fieldLink RX7 63 "VideoBridgeModel" "layers" "[I") (by decide +kernel)
  have hf66 := hts (.fieldLink RX7 66 "VideoBridgeModel" "code" "I") (by decide +kernel)
  have hf70 := hts (.fieldLink RX7 70 "VideoBridgeModel" "people" "I") (by decide +kernel)
  have hinX7 : ∀ w ∈ u_ws RX7 TX7 25, w ∈ wsX7_meanLayer := by decide +kernel
  skip
  obtain ⟨hI, hL, h6, hBY⟩ := id hM
  have hBT := hI.B
  have hc1 := hI.c
  have htI := hI.t
  refine zb_iconst (n := 0) hx hb dX7_meanLayer_0 (by decide) ?_
  refine lv_istore_n (lv' := [(1, .int (nI 0)), (0, .ref (ad 14 0))]) hx hb dX7_meanLayer_1 rfl hl (by decide) rfl (fun ls hl => ?_)
  refine zb_iconst (n := 0) hx hb dX7_meanLayer_2 (by decide) ?_
  refine lv_istore_n (lv' := [(2, .int (nI 0)), (1, .int (nI 0)), (0, .ref (ad 14 0))]) hx hb dX7_meanLayer_3 rfl hl (by decide) rfl (fun ls hl => ?_)
  refine zb_iconst (n := 0) hx hb dX7_meanLayer_4 (by decide) ?_
  refine lv_istore_n (lv' := [(3, .int (nI 0)), (2, .int (nI 0)), (1, .int (nI 0)), (0, .ref (ad 14 0))]) hx hb dX7_meanLayer_5 rfl hl (by decide) rfl (fun ls hl => ?_)
  have loop6 : ∀ (N : Nat) (Y1 : za_S) (i : Nat), (i ≤ T.1 0 0 0) → (True ∧ zs_B Y1) → T.1 0 0 0 - i < N → ∀ (H : Heap) (locs : List Loc), za_G E b (ad, S, X, T, Y1, ow, dw) H → va_S (za_A b) s.heap H locs → ∀ ls : Array Slot, lv_has ls 5 [(0, .ref (ad 14 0)), (1, .int (nI (zs_mP T i))), (2, .int (nI (zs_mL T i))), (3, .int (nI i))] → W pg l en ({ frames := 3, cells := 0, slots := 0, locals := 71 } : Room) s m ([.ref (ad 14 0)] : List Value).toArray below meth c H locs (0) (0) (MQ below (za_Qd E b (fun r u => ∃ T2 Y2, u = (ad, S, X, T2, Y2, ow, dw) ∧ zy Y2 (zo_md T) ∧ ((zo_md T = 0 ∧ T2 = T ∧ r = zs_md T) ∨ (zo_md T ≠ 0 ∧ T2 = T)))) ([.ref (ad 14 0)] : List Value).toArray s (0) (0) (za_A b)) (F0 m 6 ls []) := by
    intro N
    induction N with
    | zero => intro Y1 i hi hY1 hN; exact absurd hN (Nat.not_lt_zero _)
    | succ N ih6 =>
      intro Y1 i hi hY1 hN H locs hG hS ls hl
      refine lv_iload_n hx hb dX7_meanLayer_6 rfl (lv_at hl 3 rfl) ?_
      refine lv_aload_n hx hb dX7_meanLayer_7 rfl (lv_at hl 0 rfl) ?_
      refine zg_MO_people hx hb hts hinX7 hown hf70 hK hG (n := T.1 0 0 0) rfl dX7_meanLayer_8 ?_
      refine zb_icmp_ge (x := i) (y := T.1 0 0 0) (tgt := 86) hx hb (by omega) (by have := hBT 0 0 0; omega) dX7_meanLayer_11 (by decide) (fun c_11 => ?_) (fun c_11 => ?_)
      · obtain rfl : i = T.1 0 0 0 := by omega
        have hmp := zs_mP_le T 10
        rw [(zs_m10 hc1.1).1, (zs_m10 hc1.1).2.1] at hl
        refine lv_aload_n hx hb dX7_meanLayer_86 rfl (lv_at hl 0 rfl) ?_
        refine lv_iload_n hx hb dX7_meanLayer_87 rfl (lv_at hl 1 rfl) ?_
        refine zb_if_ne (x := zs_mP T 10) (tgt := 95) hx hb (by omega) dX7_meanLayer_88 (by decide) (fun c_88 => ?_) (fun c_88 => ?_)
        · refine zb_iconst (n := 0) hx hb dX7_meanLayer_95 (by decide) ?_
          refine zp_MO_code hx hb hts hinX7 hown hf66 hS hK hG dX7_meanLayer_96 (fun H locs hG hS => ?_)
          refine lv_aload_n hx hb dX7_meanLayer_99 rfl (lv_at hl 0 rfl) ?_
          refine zg_MO_code hx hb hts hinX7 hown hf66 hK hG (n := 0) (by simp [za_N, za_P]) dX7_meanLayer_100 ?_
          refine zb_if_le (x := 0) (tgt := 110) hx hb (by decide) dX7_meanLayer_103 (by decide) (fun _ => ?_) (fun c9 => absurd c9 (by decide))
          refine lv_iload_n hx hb dX7_meanLayer_110 rfl (lv_at hl 2 rfl) ?_
          refine lv_i2d hx hb dX7_meanLayer_111 ?_
          refine lv_iload_n hx hb dX7_meanLayer_112 rfl (lv_at hl 1 rfl) ?_
          refine lv_i2d hx hb dX7_meanLayer_113 ?_
          refine lv_ddiv hx hb dX7_meanLayer_114 (zf_n64 (zs_md_n c_88)) ?_
          have hcode : zo_md T = 0 := by unfold zo_md; (first | rfl | ((repeat' split) <;> first | rfl | (exfalso; omega) | contradiction | (exfalso; simp_all; done)))
          exact zm_dret hx hb hr hlocks hG hS (by omega) (by omega) ⟨_, _, rfl, by rw [hcode]; exact zy_N hY1.2 (by decide), Or.inl ⟨hcode, rfl, rfl⟩⟩ dX7_meanLayer_115
        · refine zb_iconst (n := 1) hx hb dX7_meanLayer_91 (by decide) ?_
          refine zb_goto (tgt := 96) hx hb dX7_meanLayer_92 (by decide) ?_
          refine zp_MO_code hx hb hts hinX7 hown hf66 hS hK hG dX7_meanLayer_96 (fun H locs hG hS => ?_)
          refine lv_aload_n hx hb dX7_meanLayer_99 rfl (lv_at hl 0 rfl) ?_
          refine zg_MO_code hx hb hts hinX7 hown hf66 hK hG (n := 1) (by simp [za_N, za_P]) dX7_meanLayer_100 ?_
          refine zb_if_le (x := 1) (tgt := 110) hx hb (by decide) dX7_meanLayer_103 (by decide) (fun c9 => absurd c9 (by decide)) (fun _ => ?_)
          refine lv_dconst0 hx hb dX7_meanLayer_106 ?_
          refine zb_goto (tgt := 115) hx hb dX7_meanLayer_107 (by decide) ?_
          have hcode : zo_md T = 1 := by unfold zo_md; (first | rfl | ((repeat' split) <;> first | rfl | (exfalso; omega) | contradiction | (exfalso; simp_all; done)))
          exact zm_dret hx hb hr hlocks hG hS (by omega) (by omega) ⟨_, _, rfl, by rw [hcode]; exact zy_N hY1.2 (by decide), Or.inr ⟨by rw [hcode]; decide, rfl⟩⟩ dX7_meanLayer_115
      · refine lv_iload_n hx hb dX7_meanLayer_14 rfl (lv_at hl 1 rfl) ?_
        refine lv_aload_n hx hb dX7_meanLayer_15 rfl (lv_at hl 0 rfl) ?_
        refine zg_MO_roomOf hx hb hts hinX7 hown hf19 hK hG dX7_meanLayer_16 ?_
        refine lv_iload_n hx hb dX7_meanLayer_19 rfl (lv_at hl 3 rfl) ?_
        refine zld_MR (r := T.2 0 i 0) hx hb hK hG (by omega) rfl dX7_meanLayer_20 ?_
        refine zb_iconstm hx hb dX7_meanLayer_21 ?_
        refine zb_ecmp_ne (tgt := 29) hx hb (T.2 0 i 0) none (fun x h => by have := hI.ro (a := i) (by omega) h; omega) (by rintro _ ⟨⟩) dX7_meanLayer_22 (by decide) (fun c_22 => ?_) (fun c_22 => ?_)
        · obtain ⟨y_22, hy_22⟩ := Option.ne_none_iff_exists'.mp c_22
          have hro := hI.ro (by omega) hy_22
          obtain ⟨j9, hj9, -⟩ := hI.1.at (by omega) hy_22
          have hsz : 1 ≤ T.1 5 y_22 0 := by omega
          refine lv_aload_n hx hb dX7_meanLayer_29 rfl (lv_at hl 0 rfl) ?_
          refine zg_MO_sizes hx hb hts hinX7 hown hf29 hK hG dX7_meanLayer_30 ?_
          refine lv_aload_n hx hb dX7_meanLayer_33 rfl (lv_at hl 0 rfl) ?_
          refine zg_MO_roomOf hx hb hts hinX7 hown hf19 hK hG dX7_meanLayer_34 ?_
          refine lv_iload_n hx hb dX7_meanLayer_37 rfl (lv_at hl 3 rfl) ?_
          refine zld_MR (r := some y_22) hx hb hK hG (by omega) hy_22 dX7_meanLayer_38 ?_
          refine zld_MZ (n := T.1 5 y_22 0) hx hb hK hG (by omega) rfl dX7_meanLayer_39 ?_
          refine zb_iconst (n := 1) hx hb dX7_meanLayer_40 (by decide) ?_
          refine zb_isub hx hb (by omega) dX7_meanLayer_41 ?_
          refine zb_iadd hx hb dX7_meanLayer_42 ?_
          refine lv_istore_n (lv' := [(1, .int (nI ((zs_mP T i) + ((T.1 5 y_22 0) - 1)))), (0, .ref (ad 14 0)), (2, .int (nI (zs_mL T i))), (3, .int (nI i))]) hx hb dX7_meanLayer_43 rfl hl (by decide) rfl (fun ls hl => ?_)
          rw [show (zs_mP T i) + ((T.1 5 y_22 0) - 1) = zs_mP T (i + 1) from by rw [(zs_mP_s T i).1, zs_p1_r hI (by omega) hy_22]] at hl
          refine lv_aload_n hx hb dX7_meanLayer_44 rfl (lv_at hl 1 rfl) ?_
          refine lv_iload_n hx hb dX7_meanLayer_45 rfl (lv_at hl 3 rfl) ?_
          refine zc_Vi (As := [.int (nI i)]) (rest := []) hK hZ hb0 hG hS hx hb hml hown hts (c_X7_uses l i hI (by omega) hY1.2) (cwV 1 hts gX7_meanLayer_X7_uses rfl rfl rfl (by decide +kernel) ⟨Nat.le_of_ble_eq_true rfl, Nat.le_of_ble_eq_true rfl⟩) (za_recv (q := (RX7, TX7, 25)) hK hG 14 0 ⟨by omega, rfl⟩ rfl rfl rfl) rfl hl rfl (Nat.le_of_ble_eq_true rfl) dX7_meanLayer_46 ⟨Nat.le_of_ble_eq_true rfl, Nat.le_of_ble_eq_true rfl⟩ (fun r_46 u_46 H locs hp hG hS => ?_)
          obtain ⟨rfl, Y2, rfl, q2, q3⟩ := hp
          have hus := zs_us_le T i
          have hY2 : True ∧ zs_B Y2 := ⟨trivial, q2.2⟩
          refine zb_if_le (x := zs_us T i) (tgt := 80) hx hb (by omega) dX7_meanLayer_49 (by decide) (fun c_49 => ?_) (fun c_49 => ?_)
          · rw [show zs_mL T i = zs_mL T (i + 1) from by rw [(zs_mP_s T i).2, zs_l1_0 hI (by omega) (by omega)]; rfl] at hl
            refine zb_iinc (n := 1) (k := 3) (lv' := [(3, .int (nI (i + 1))), (1, .int (nI (zs_mP T (i + 1)))), (0, .ref (ad 14 0)), (2, .int (nI (zs_mL T (i + 1))))]) hx hb dX7_meanLayer_80 hl rfl (by decide) (by decide) rfl (fun ls hl => ?_)
            refine zb_goto (tgt := 6) hx hb dX7_meanLayer_83 (by decide) ?_
            exact ih6 Y2 (i + 1) (by omega) hY2 (by omega) _ _ hG hS ls (lv_sub hl [2, 1, 3, 0] rfl)
          · refine zb_iconst (n := 0) hx hb dX7_meanLayer_52 (by decide) ?_
            refine lv_istore (lv' := [(4, .int (nI 0)), (1, .int (nI (zs_mP T (i + 1)))), (0, .ref (ad 14 0)), (2, .int (nI (zs_mL T i))), (3, .int (nI i))]) hx hb dX7_meanLayer_53 hl (by decide) rfl (fun ls hl => ?_)
            have loop55 : ∀ (N : Nat) (q : Nat), (q ≤ T.1 0 0 0) → T.1 0 0 0 - q < N → ∀ (H : Heap) (locs : List Loc), za_G E b (ad, S, X, T, Y2, ow, dw) H → va_S (za_A b) s.heap H locs → ∀ ls : Array Slot, lv_has ls 5 [(0, .ref (ad 14 0)), (1, .int (nI (zs_mP T (i + 1)))), (2, .int (nI (zs_mL T i + zs_sum (zs_ch T i).1 q))), (3, .int (nI i)), (4, .int (nI q))] → W pg l en ({ frames := 3, cells := 0, slots := 0, locals := 71 } : Room) s m ([.ref (ad 14 0)] : List Value).toArray below meth c H locs (0 + 0) (0 + 0) (MQ below (za_Qd E b (fun r u => ∃ T2 Y2, u = (ad, S, X, T2, Y2, ow, dw) ∧ zy Y2 (zo_md T) ∧ ((zo_md T = 0 ∧ T2 = T ∧ r = zs_md T) ∨ (zo_md T ≠ 0 ∧ T2 = T)))) ([.ref (ad 14 0)] : List Value).toArray s (0) (0) (za_A b)) (F0 m 55 ls []) := by
              intro N
              induction N with
              | zero => intro q hq hN; exact absurd hN (Nat.not_lt_zero _)
              | succ N ih55 =>
                intro q hq hN H locs hG hS ls hl
                refine lv_iload hx hb dX7_meanLayer_55 (lv_at hl 4 rfl) ?_
                refine lv_aload_n hx hb dX7_meanLayer_57 rfl (lv_at hl 0 rfl) ?_
                refine zg_MO_people hx hb hts hinX7 hown hf70 hK hG (n := T.1 0 0 0) rfl dX7_meanLayer_58 ?_
                refine zb_icmp_ge (x := q) (y := T.1 0 0 0) (tgt := 80) hx hb (by omega) (by have := hBT 0 0 0; omega) dX7_meanLayer_61 (by decide) (fun c_61 => ?_) (fun c_61 => ?_)
                · obtain rfl : q = T.1 0 0 0 := by omega
                  rw [show zs_mL T i + zs_sum (zs_ch T i).1 (T.1 0 0 0) = zs_mL T (i + 1) from by rw [(zs_mP_s T i).2, zs_l1_s hI (by omega)]] at hl
                  refine zb_iinc (n := 1) (k := 3) (lv' := [(3, .int (nI (i + 1))), (0, .ref (ad 14 0)), (1, .int (nI (zs_mP T (i + 1)))), (2, .int (nI (zs_mL T (i + 1)))), (4, .int (nI (T.1 0 0 0)))]) hx hb dX7_meanLayer_80 hl rfl (by decide) (by decide) rfl (fun ls hl => ?_)
                  refine zb_goto (tgt := 6) hx hb dX7_meanLayer_83 (by decide) ?_
                  exact ih6 Y2 (i + 1) (by omega) hY2 (by omega) _ _ hG hS ls (lv_sub hl [1, 2, 3, 0] rfl)
                · refine lv_iload_n hx hb dX7_meanLayer_64 rfl (lv_at hl 2 rfl) ?_
                  refine lv_aload_n hx hb dX7_meanLayer_65 rfl (lv_at hl 0 rfl) ?_
                  refine zg_MO_layers hx hb hts hinX7 hown hf63 hK hG dX7_meanLayer_66 ?_
                  refine lv_iload hx hb dX7_meanLayer_69 (lv_at hl 4 rfl) ?_
                  refine zld_MY (n := (zs_ch T i).1 q) hx hb hK hG (by omega) (q3 _ (by omega)) dX7_meanLayer_71 ?_
                  refine zb_iadd hx hb dX7_meanLayer_72 ?_
                  refine lv_istore_n (lv' := [(2, .int (nI ((zs_mL T i + zs_sum (zs_ch T i).1 q) + ((zs_ch T i).1 q)))), (0, .ref (ad 14 0)), (1, .int (nI (zs_mP T (i + 1)))), (3, .int (nI i)), (4, .int (nI q))]) hx hb dX7_meanLayer_73 rfl hl (by decide) rfl (fun ls hl => ?_)
                  refine zb_iinc (n := 1) (k := 4) (lv' := [(4, .int (nI (q + 1))), (2, .int (nI ((zs_mL T i + zs_sum (zs_ch T i).1 q) + ((zs_ch T i).1 q)))), (0, .ref (ad 14 0)), (1, .int (nI (zs_mP T (i + 1)))), (3, .int (nI i))]) hx hb dX7_meanLayer_74 hl rfl (by decide) (by decide) rfl (fun ls hl => ?_)
                  refine zb_goto (tgt := 55) hx hb dX7_meanLayer_77 (by decide) ?_
                  rw [show zs_mL T i + zs_sum (zs_ch T i).1 q + (zs_ch T i).1 q = zs_mL T i + zs_sum (zs_ch T i).1 (q + 1) from by rw [zs_sum_s]; omega] at hl
                  exact ih55 (q + 1) (by omega) (by omega) _ _ hG hS ls (lv_sub hl [2, 3, 1, 4, 0] rfl)
            exact loop55 (_ + 1) 0 (Nat.zero_le _) (Nat.lt_succ_self _) _ _ hG hS ls (lv_sub hl [2, 1, 3, 4, 0] rfl)
        · skip
          refine zb_iconst (n := 0) hx hb dX7_meanLayer_25 (by decide) ?_
          refine zb_goto (tgt := 42) hx hb dX7_meanLayer_26 (by decide) ?_
          refine zb_iadd hx hb dX7_meanLayer_42 ?_
          refine lv_istore_n (lv' := [(1, .int (nI ((zs_mP T i) + 0))), (0, .ref (ad 14 0)), (2, .int (nI (zs_mL T i))), (3, .int (nI i))]) hx hb dX7_meanLayer_43 rfl hl (by decide) rfl (fun ls hl => ?_)
          rw [show (zs_mP T i) + 0 = zs_mP T (i + 1) from by rw [(zs_mP_s T i).1, zs_p1_n c_22]] at hl
          refine lv_aload_n hx hb dX7_meanLayer_44 rfl (lv_at hl 1 rfl) ?_
          refine lv_iload_n hx hb dX7_meanLayer_45 rfl (lv_at hl 3 rfl) ?_
          refine zc_Vi (As := [.int (nI i)]) (rest := []) hK hZ hb0 hG hS hx hb hml hown hts (c_X7_uses l i hI (by omega) hY1.2) (cwV 1 hts gX7_meanLayer_X7_uses rfl rfl rfl (by decide +kernel) ⟨Nat.le_of_ble_eq_true rfl, Nat.le_of_ble_eq_true rfl⟩) (za_recv (q := (RX7, TX7, 25)) hK hG 14 0 ⟨by omega, rfl⟩ rfl rfl rfl) rfl hl rfl (Nat.le_of_ble_eq_true rfl) dX7_meanLayer_46 ⟨Nat.le_of_ble_eq_true rfl, Nat.le_of_ble_eq_true rfl⟩ (fun r_46 u_46 H locs hp hG hS => ?_)
          obtain ⟨rfl, Y2, rfl, q2, q3⟩ := hp
          have hus := zs_us_le T i
          have hY2 : True ∧ zs_B Y2 := ⟨trivial, q2.2⟩
          refine zb_if_le (x := zs_us T i) (tgt := 80) hx hb (by omega) dX7_meanLayer_49 (by decide) (fun c_49 => ?_) (fun c_49 => ?_)
          · rw [show zs_mL T i = zs_mL T (i + 1) from by rw [(zs_mP_s T i).2, zs_l1_0 hI (by omega) (by omega)]; rfl] at hl
            refine zb_iinc (n := 1) (k := 3) (lv' := [(3, .int (nI (i + 1))), (1, .int (nI (zs_mP T (i + 1)))), (0, .ref (ad 14 0)), (2, .int (nI (zs_mL T (i + 1))))]) hx hb dX7_meanLayer_80 hl rfl (by decide) (by decide) rfl (fun ls hl => ?_)
            refine zb_goto (tgt := 6) hx hb dX7_meanLayer_83 (by decide) ?_
            exact ih6 Y2 (i + 1) (by omega) hY2 (by omega) _ _ hG hS ls (lv_sub hl [2, 1, 3, 0] rfl)
          · refine zb_iconst (n := 0) hx hb dX7_meanLayer_52 (by decide) ?_
            refine lv_istore (lv' := [(4, .int (nI 0)), (1, .int (nI (zs_mP T (i + 1)))), (0, .ref (ad 14 0)), (2, .int (nI (zs_mL T i))), (3, .int (nI i))]) hx hb dX7_meanLayer_53 hl (by decide) rfl (fun ls hl => ?_)
            have loop55 : ∀ (N : Nat) (q : Nat), (q ≤ T.1 0 0 0) → T.1 0 0 0 - q < N → ∀ (H : Heap) (locs : List Loc), za_G E b (ad, S, X, T, Y2, ow, dw) H → va_S (za_A b) s.heap H locs → ∀ ls : Array Slot, lv_has ls 5 [(0, .ref (ad 14 0)), (1, .int (nI (zs_mP T (i + 1)))), (2, .int (nI (zs_mL T i + zs_sum (zs_ch T i).1 q))), (3, .int (nI i)), (4, .int (nI q))] → W pg l en ({ frames := 3, cells := 0, slots := 0, locals := 71 } : Room) s m ([.ref (ad 14 0)] : List Value).toArray below meth c H locs (0 + 0) (0 + 0) (MQ below (za_Qd E b (fun r u => ∃ T2 Y2, u = (ad, S, X, T2, Y2, ow, dw) ∧ zy Y2 (zo_md T) ∧ ((zo_md T = 0 ∧ T2 = T ∧ r = zs_md T) ∨ (zo_md T ≠ 0 ∧ T2 = T)))) ([.ref (ad 14 0)] : List Value).toArray s (0) (0) (za_A b)) (F0 m 55 ls []) := by
              intro N
              induction N with
              | zero => intro q hq hN; exact absurd hN (Nat.not_lt_zero _)
              | succ N ih55 =>
                intro q hq hN H locs hG hS ls hl
                refine lv_iload hx hb dX7_meanLayer_55 (lv_at hl 4 rfl) ?_
                refine lv_aload_n hx hb dX7_meanLayer_57 rfl (lv_at hl 0 rfl) ?_
                refine zg_MO_people hx hb hts hinX7 hown hf70 hK hG (n := T.1 0 0 0) rfl dX7_meanLayer_58 ?_
                refine zb_icmp_ge (x := q) (y := T.1 0 0 0) (tgt := 80) hx hb (by omega) (by have := hBT 0 0 0; omega) dX7_meanLayer_61 (by decide) (fun c_61 => ?_) (fun c_61 => ?_)
                · obtain rfl : q = T.1 0 0 0 := by omega
                  rw [show zs_mL T i + zs_sum (zs_ch T i).1 (T.1 0 0 0) = zs_mL T (i + 1) from by rw [(zs_mP_s T i).2, zs_l1_s hI (by omega)]] at hl
                  refine zb_iinc (n := 1) (k := 3) (lv' := [(3, .int (nI (i + 1))), (0, .ref (ad 14 0)), (1, .int (nI (zs_mP T (i + 1)))), (2, .int (nI (zs_mL T (i + 1)))), (4, .int (nI (T.1 0 0 0)))]) hx hb dX7_meanLayer_80 hl rfl (by decide) (by decide) rfl (fun ls hl => ?_)
                  refine zb_goto (tgt := 6) hx hb dX7_meanLayer_83 (by decide) ?_
                  exact ih6 Y2 (i + 1) (by omega) hY2 (by omega) _ _ hG hS ls (lv_sub hl [1, 2, 3, 0] rfl)
                · refine lv_iload_n hx hb dX7_meanLayer_64 rfl (lv_at hl 2 rfl) ?_
                  refine lv_aload_n hx hb dX7_meanLayer_65 rfl (lv_at hl 0 rfl) ?_
                  refine zg_MO_layers hx hb hts hinX7 hown hf63 hK hG dX7_meanLayer_66 ?_
                  refine lv_iload hx hb dX7_meanLayer_69 (lv_at hl 4 rfl) ?_
                  refine zld_MY (n := (zs_ch T i).1 q) hx hb hK hG (by omega) (q3 _ (by omega)) dX7_meanLayer_71 ?_
                  refine zb_iadd hx hb dX7_meanLayer_72 ?_
                  refine lv_istore_n (lv' := [(2, .int (nI ((zs_mL T i + zs_sum (zs_ch T i).1 q) + ((zs_ch T i).1 q)))), (0, .ref (ad 14 0)), (1, .int (nI (zs_mP T (i + 1)))), (3, .int (nI i)), (4, .int (nI q))]) hx hb dX7_meanLayer_73 rfl hl (by decide) rfl (fun ls hl => ?_)
                  refine zb_iinc (n := 1) (k := 4) (lv' := [(4, .int (nI (q + 1))), (2, .int (nI ((zs_mL T i + zs_sum (zs_ch T i).1 q) + ((zs_ch T i).1 q)))), (0, .ref (ad 14 0)), (1, .int (nI (zs_mP T (i + 1)))), (3, .int (nI i))]) hx hb dX7_meanLayer_74 hl rfl (by decide) (by decide) rfl (fun ls hl => ?_)
                  refine zb_goto (tgt := 55) hx hb dX7_meanLayer_77 (by decide) ?_
                  rw [show zs_mL T i + zs_sum (zs_ch T i).1 q + (zs_ch T i).1 q = zs_mL T i + zs_sum (zs_ch T i).1 (q + 1) from by rw [zs_sum_s]; omega] at hl
                  exact ih55 (q + 1) (by omega) (by omega) _ _ hG hS ls (lv_sub hl [2, 3, 1, 4, 0] rfl)
            exact loop55 (_ + 1) 0 (Nat.zero_le _) (Nat.lt_succ_self _) _ _ hG hS ls (lv_sub hl [2, 1, 3, 4, 0] rfl)
  exact loop6 (_ + 1) Y 0 (Nat.zero_le _) ⟨trivial, hBY⟩ (Nat.lt_succ_self _) _ _ hG hS ls (lv_sub hl [3, 2, 1, 0] rfl)

set_option maxRecDepth 100000 in
set_option maxHeartbeats 4000000 in
theorem c_X7_usedShare (l : Launch) {E : za_E} {b : Nat} {ad : za_Ad} {S X T Y : za_S} {ow : Int64} {dw : UInt64}  (hM : zs_M T Y) : Met l yX7_usedShare wsX7_usedShare ({ frames := 3, cells := 0, slots := 0, locals := 71 } : Room) (za_Pc E b (ad, S, X, T, Y, ow, dw) [.ref (ad 14 0)]) (za_Qf E b (fun r u => ∃ T2 Y2, u = (ad, S, X, T2, Y2, ow, dw) ∧ zy Y2 (zo_shr T) ∧ ((zo_shr T = 0 ∧ T2 = T ∧ r = zs_shr T) ∨ (zo_shr T ≠ 0 ∧ T2 = T)))) (0) (0) (za_A b) := by
  refine zm_met (ccm := cX7_usedShare) (maxL := 4) (ret := (some .float)) (ws' := _) (own := RX7) (lv := [(0, .ref (ad 14 0))]) (by decide) rfl rfl rfl (by simp [lg_sl, Value.category]) ?_
  intro pg en s m below meth c hx hb hml hr hown hts hlocks hK hZ hb0 hG hS ls hl
  have hf66 := hts (.fieldLink RX7 66 "VideoBridgeModel" "code" "I") (by decide +kernel)
  have hf7 := hts (.fieldLink RX7 7 "VideoBridgeModel" "budgets" "[I") (by decide +kernel)
  have hf70 := hts (.fieldLink RX7 70 "VideoBridgeModel" "people" "I") (by decide +kernel)
  have hinX7 : ∀ w ∈ u_ws RX7 TX7 25, w ∈ wsX7_usedShare := by decide +kernel
  skip
  obtain ⟨hI, hL, h6, hBY⟩ := id hM
  have hBT := hI.B
  have hc1 := hI.c
  have htI := hI.t
  refine zb_iconst (n := 0) hx hb dX7_usedShare_0 (by decide) ?_
  refine lv_istore_n (lv' := [(1, .int (nI 0)), (0, .ref (ad 14 0))]) hx hb dX7_usedShare_1 rfl hl (by decide) rfl (fun ls hl => ?_)
  refine zb_iconst (n := 0) hx hb dX7_usedShare_2 (by decide) ?_
  refine lv_istore_n (lv' := [(2, .int (nI 0)), (1, .int (nI 0)), (0, .ref (ad 14 0))]) hx hb dX7_usedShare_3 rfl hl (by decide) rfl (fun ls hl => ?_)
  refine zb_iconst (n := 0) hx hb dX7_usedShare_4 (by decide) ?_
  refine lv_istore_n (lv' := [(3, .int (nI 0)), (2, .int (nI 0)), (1, .int (nI 0)), (0, .ref (ad 14 0))]) hx hb dX7_usedShare_5 rfl hl (by decide) rfl (fun ls hl => ?_)
  have loop6 : ∀ (N : Nat) (Y1 : za_S) (i : Nat), (i ≤ T.1 0 0 0) → (True ∧ zs_B Y1) → T.1 0 0 0 - i < N → ∀ (H : Heap) (locs : List Loc), za_G E b (ad, S, X, T, Y1, ow, dw) H → va_S (za_A b) s.heap H locs → ∀ ls : Array Slot, lv_has ls 4 [(0, .ref (ad 14 0)), (1, .int (nI (zs_ua T i))), (2, .int (nI (zs_bg T i))), (3, .int (nI i))] → W pg l en ({ frames := 3, cells := 0, slots := 0, locals := 71 } : Room) s m ([.ref (ad 14 0)] : List Value).toArray below meth c H locs (0) (0) (MQ below (za_Qf E b (fun r u => ∃ T2 Y2, u = (ad, S, X, T2, Y2, ow, dw) ∧ zy Y2 (zo_shr T) ∧ ((zo_shr T = 0 ∧ T2 = T ∧ r = zs_shr T) ∨ (zo_shr T ≠ 0 ∧ T2 = T)))) ([.ref (ad 14 0)] : List Value).toArray s (0) (0) (za_A b)) (F0 m 6 ls []) := by
    intro N
    induction N with
    | zero => intro Y1 i hi hY1 hN; exact absurd hN (Nat.not_lt_zero _)
    | succ N ih6 =>
      intro Y1 i hi hY1 hN H locs hG hS ls hl
      refine lv_iload_n hx hb dX7_usedShare_6 rfl (lv_at hl 3 rfl) ?_
      refine lv_aload_n hx hb dX7_usedShare_7 rfl (lv_at hl 0 rfl) ?_
      refine zg_MO_people hx hb hts hinX7 hown hf70 hK hG (n := T.1 0 0 0) rfl dX7_usedShare_8 ?_
      refine zb_icmp_ge (x := i) (y := T.1 0 0 0) (tgt := 37) hx hb (by omega) (by have := hBT 0 0 0; omega) dX7_usedShare_11 (by decide) (fun c_11 => ?_) (fun c_11 => ?_)
      · obtain rfl : i = T.1 0 0 0 := by omega
        have hmp := zs_bg_le hI 10
        rw [(zs_m10 hc1.1).2.2.1, (zs_m10 hc1.1).2.2.2] at hl
        refine lv_aload_n hx hb dX7_usedShare_37 rfl (lv_at hl 0 rfl) ?_
        refine lv_iload_n hx hb dX7_usedShare_38 rfl (lv_at hl 2 rfl) ?_
        refine zb_if_ne (x := zs_bg T 10) (tgt := 46) hx hb (by omega) dX7_usedShare_39 (by decide) (fun c_39 => ?_) (fun c_39 => ?_)
        · refine zb_iconst (n := 0) hx hb dX7_usedShare_46 (by decide) ?_
          refine zp_MO_code hx hb hts hinX7 hown hf66 hS hK hG dX7_usedShare_47 (fun H locs hG hS => ?_)
          refine lv_aload_n hx hb dX7_usedShare_50 rfl (lv_at hl 0 rfl) ?_
          refine zg_MO_code hx hb hts hinX7 hown hf66 hK hG (n := 0) (by simp [za_N, za_P]) dX7_usedShare_51 ?_
          refine zb_if_le (x := 0) (tgt := 61) hx hb (by decide) dX7_usedShare_54 (by decide) (fun _ => ?_) (fun c9 => absurd c9 (by decide))
          refine lv_iload_n hx hb dX7_usedShare_61 rfl (lv_at hl 1 rfl) ?_
          refine lv_i2f hx hb dX7_usedShare_62 ?_
          refine lv_iload_n hx hb dX7_usedShare_63 rfl (lv_at hl 2 rfl) ?_
          refine lv_i2f hx hb dX7_usedShare_64 ?_
          refine lv_fdiv hx hb dX7_usedShare_65 (zf_n32 (zs_shr_n hI c_39)) ?_
          have hcode : zo_shr T = 0 := by unfold zo_shr; (first | rfl | ((repeat' split) <;> first | rfl | (exfalso; omega) | contradiction | (exfalso; simp_all; done)))
          exact zm_fret hx hb hr hlocks hG hS (by omega) (by omega) ⟨_, _, rfl, by rw [hcode]; exact zy_N hY1.2 (by decide), Or.inl ⟨hcode, rfl, rfl⟩⟩ dX7_usedShare_66
        · refine zb_iconst (n := 1) hx hb dX7_usedShare_42 (by decide) ?_
          refine zb_goto (tgt := 47) hx hb dX7_usedShare_43 (by decide) ?_
          refine zp_MO_code hx hb hts hinX7 hown hf66 hS hK hG dX7_usedShare_47 (fun H locs hG hS => ?_)
          refine lv_aload_n hx hb dX7_usedShare_50 rfl (lv_at hl 0 rfl) ?_
          refine zg_MO_code hx hb hts hinX7 hown hf66 hK hG (n := 1) (by simp [za_N, za_P]) dX7_usedShare_51 ?_
          refine zb_if_le (x := 1) (tgt := 61) hx hb (by decide) dX7_usedShare_54 (by decide) (fun c9 => absurd c9 (by decide)) (fun _ => ?_)
          refine lv_fconst0 hx hb dX7_usedShare_57 ?_
          refine zb_goto (tgt := 66) hx hb dX7_usedShare_58 (by decide) ?_
          have hcode : zo_shr T = 1 := by unfold zo_shr; (first | rfl | ((repeat' split) <;> first | rfl | (exfalso; omega) | contradiction | (exfalso; simp_all; done)))
          exact zm_fret hx hb hr hlocks hG hS (by omega) (by omega) ⟨_, _, rfl, by rw [hcode]; exact zy_N hY1.2 (by decide), Or.inr ⟨by rw [hcode]; decide, rfl⟩⟩ dX7_usedShare_66
      · refine lv_iload_n hx hb dX7_usedShare_14 rfl (lv_at hl 1 rfl) ?_
        refine lv_aload_n hx hb dX7_usedShare_15 rfl (lv_at hl 0 rfl) ?_
        refine lv_iload_n hx hb dX7_usedShare_16 rfl (lv_at hl 3 rfl) ?_
        refine zc_Vi (As := [.int (nI i)]) (rest := [.int (nI (zs_ua T i))]) hK hZ hb0 hG hS hx hb hml hown hts (c_X7_uses l i hI (by omega) hY1.2) (cwV 1 hts gX7_usedShare_X7_uses rfl rfl rfl (by decide +kernel) ⟨Nat.le_of_ble_eq_true rfl, Nat.le_of_ble_eq_true rfl⟩) (za_recv (q := (RX7, TX7, 25)) hK hG 14 0 ⟨by omega, rfl⟩ rfl rfl rfl) rfl hl rfl (Nat.le_of_ble_eq_true rfl) dX7_usedShare_17 ⟨Nat.le_of_ble_eq_true rfl, Nat.le_of_ble_eq_true rfl⟩ (fun r_17 u_17 H locs hp hG hS => ?_)
        obtain ⟨rfl, Y2, rfl, q2, q3⟩ := hp
        have hus := zs_us_le T i
        have hY2 : True ∧ zs_B Y2 := ⟨trivial, q2.2⟩
        refine zb_iadd hx hb dX7_usedShare_20 ?_
        refine lv_istore_n (lv' := [(1, .int (nI ((zs_ua T i) + (zs_us T i)))), (0, .ref (ad 14 0)), (2, .int (nI (zs_bg T i))), (3, .int (nI i))]) hx hb dX7_usedShare_21 rfl hl (by decide) rfl (fun ls hl => ?_)
        refine lv_iload_n hx hb dX7_usedShare_22 rfl (lv_at hl 2 rfl) ?_
        refine lv_aload_n hx hb dX7_usedShare_23 rfl (lv_at hl 1 rfl) ?_
        refine zg_MO_budgets hx hb hts hinX7 hown hf7 hK hG dX7_usedShare_24 ?_
        refine lv_iload_n hx hb dX7_usedShare_27 rfl (lv_at hl 3 rfl) ?_
        refine zld_MB (n := T.1 1 i 0) hx hb hK hG (by omega) rfl dX7_usedShare_28 ?_
        refine zb_iadd hx hb dX7_usedShare_29 ?_
        refine lv_istore_n (lv' := [(2, .int (nI ((zs_bg T i) + (T.1 1 i 0)))), (1, .int (nI ((zs_ua T i) + (zs_us T i)))), (0, .ref (ad 14 0)), (3, .int (nI i))]) hx hb dX7_usedShare_30 rfl hl (by decide) rfl (fun ls hl => ?_)
        rw [show (zs_ua T i) + (zs_us T i) = zs_ua T (i + 1) from by rw [zs_ua_s, if_pos (by omega)], show (zs_bg T i) + (T.1 1 i 0) = zs_bg T (i + 1) from by rw [zs_bg_s, if_pos (by omega)]] at hl
        refine zb_iinc (n := 1) (k := 3) (lv' := [(3, .int (nI (i + 1))), (2, .int (nI (zs_bg T (i + 1)))), (1, .int (nI (zs_ua T (i + 1)))), (0, .ref (ad 14 0))]) hx hb dX7_usedShare_31 hl rfl (by decide) (by decide) rfl (fun ls hl => ?_)
        refine zb_goto (tgt := 6) hx hb dX7_usedShare_34 (by decide) ?_
        exact ih6 Y2 (i + 1) (by omega) hY2 (by omega) _ _ hG hS ls (lv_sub hl [3, 2, 1, 0] rfl)
  exact loop6 (_ + 1) Y 0 (Nat.zero_le _) ⟨trivial, hBY⟩ (Nat.lt_succ_self _) _ _ hG hS ls (lv_sub hl [3, 2, 1, 0] rfl)
