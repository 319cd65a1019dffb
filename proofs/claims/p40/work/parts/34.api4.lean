set_option maxRecDepth 100000 in
set_option maxHeartbeats 4000000 in
theorem c_X6_join (l : Launch) (hl0 : l.stackTraces = false) {E : za_E} {b : Nat} {ad : za_Ad} {S X T Y : za_S} {ow : Int64} {dw : UInt64} (p0 p1 : Int32) (hC : zs_C S X)  : vx_Met l yX6_join wsX6_join ({ frames := 7, cells := 3, slots := 18, locals := 139 } : Room) (za_Pc E b (ad, S, X, T, Y, ow, dw) [.ref (ad 0 0), .int p0, .int p1]) (za_Qi E b (fun r u => zo_jo S (zs_ix p0) (zs_ix p1) = 0 ∧ r = nI ((zs_st (zs_fw (zs_jn S (zs_ix p0) (zs_ix p1) 10) (zs_ix p0) (zs_ix p1) 8) 10).1 5 (zs_ix p1) 0) ∧ ∃ X2, u = (ad, zs_st (zs_fw (zs_jn S (zs_ix p0) (zs_ix p1) 10) (zs_ix p0) (zs_ix p1) 8) 10, X2, T, Y, ow, dw) ∧ zs_fv X X2 ∧ zs_B X2 ∧ zs_ok (zs_st (zs_fw (zs_jn S (zs_ix p0) (zs_ix p1) 10) (zs_ix p0) (zs_ix p1) 8) 10) X2)) (za_X E b (fun En u => (En = "java/lang/IndexOutOfBoundsException" ∧ zo_jo S (zs_ix p0) (zs_ix p1) = 1 ∧ u = (ad, S, X, T, Y, ow, dw)) ∨ (En = "java/lang/IllegalArgumentException" ∧ zo_jo S (zs_ix p0) (zs_ix p1) = 2 ∧ u = (ad, S, X, T, Y, ow, dw)))) (3) (18) (za_A b) := by
  refine zx_met (ccm := cX6_join) (maxL := 9) (ret := (some .int)) (ws' := _) (own := RX6) (lv := [(0, .ref (ad 0 0)), (1, .int p0), (2, .int p1)]) (by decide) rfl rfl rfl (by simp [lg_sl, Value.category]) ?_
  intro pg en s m below meth c hx hb hml hr hown hts hlocks htb hK hZ hb0 hG hS ls hl
  have hf106 := hts (.fieldLink RX6 106 "VideoBridge$Room" "size" "I") (by decide +kernel)
  have hf121 := hts (.fieldLink RX6 121 "VideoBridge$Recorder" "followed" "LVideoBridge$Room;") (by decide +kernel)
  have hf23 := hts (.fieldLink RX6 23 "VideoBridge" "recorders" "[LVideoBridge$Recorder;") (by decide +kernel)
  have hiIAE := hts (.initialized "java/lang/IllegalArgumentException") (by decide +kernel)
  have hk116 := hts (.classLink RX6 116 "java/lang/IllegalArgumentException") (by decide +kernel)
  have hinX6 : ∀ w ∈ u_ws RX6 TX6 11, w ∈ wsX6_join := by decide +kernel
  have hinX3 : ∀ w ∈ u_ws RX3 TX3 3, w ∈ wsX6_join := by decide +kernel
  have hinX4 : ∀ w ∈ u_ws RX4 TX4 6, w ∈ wsX6_join := by decide +kernel
  skip
  obtain ⟨hI, hJ, hBX, hok, hRw⟩ := hC
  have hBS := hI.B
  have hc1 := hI.c
  refine lv_aload_n hx hb dX6_join_0 rfl (lv_at hl 0 rfl) ?_
  refine lv_iload_n hx hb dX6_join_1 rfl (lv_at hl 1 rfl) ?_
  refine zc_xVq (κ := 9) (As := [.int p0]) (rest := []) hK hZ hb0 hG hS hx hb hml hown hts (c_X6_roomNumbered l hl0 p0 hJ hBX hBS) (cwV 1 hts gX6_join_X6_roomNumbered rfl rfl rfl (by decide +kernel) ⟨Nat.le_of_ble_eq_true rfl, Nat.le_of_ble_eq_true rfl⟩) (za_recv (q := (RX6, TX6, 11)) hK hG 0 0 ⟨by omega, rfl⟩ rfl rfl rfl) rfl hl rfl (Nat.le_of_ble_eq_true rfl) dX6_join_2 ⟨Nat.le_of_ble_eq_true rfl, Nat.le_of_ble_eq_true rfl⟩ (fun En ce q9 u_2 H locs hp hG hS g1 g2 g3 => ?_) (fun r_2 u_2 H locs hp hG hS => ?_)
  · obtain ⟨rfl, h1, rfl⟩ := hp
    exact vx_out (fun x h => (htb x h).elim) hlocks g1 g2 g3 (fun t ht hW => ⟨(_, _), (Or.inl ⟨rfl, by unfold zo_jo; rw [if_pos h1], rfl⟩), ⟨rfl, by show za_G E b _ t.heap; rw [ht]; exact hG⟩, hS.F ht⟩) hS.2.2 (by omega) (by omega)
  · obtain ⟨rfl, h1, rfl⟩ := hp
    refine lv_astore_n (lv' := [(3, .ref (ad 9 (zs_ix p0))), (0, .ref (ad 0 0)), (1, .int p0), (2, .int p1)]) hx hb dX6_join_5 rfl hl (by decide) rfl (fun ls hl => ?_)
    refine lv_aload_n hx hb dX6_join_6 rfl (lv_at hl 1 rfl) ?_
    refine lv_iload_n hx hb dX6_join_7 rfl (lv_at hl 3 rfl) ?_
    refine zc_xVq (κ := 9) (As := [.int p1]) (rest := []) hK hZ hb0 hG hS hx hb hml hown hts (c_X6_roomNumbered l hl0 p1 hJ hBX hBS) (cwV 1 hts gX6_join_X6_roomNumbered rfl rfl rfl (by decide +kernel) ⟨Nat.le_of_ble_eq_true rfl, Nat.le_of_ble_eq_true rfl⟩) (za_recv (q := (RX6, TX6, 11)) hK hG 0 0 ⟨by omega, rfl⟩ rfl rfl rfl) rfl hl rfl (Nat.le_of_ble_eq_true rfl) dX6_join_8 ⟨Nat.le_of_ble_eq_true rfl, Nat.le_of_ble_eq_true rfl⟩ (fun En ce q9 u_8 H locs hp hG hS g1 g2 g3 => ?_) (fun r_8 u_8 H locs hp hG hS => ?_)
    · obtain ⟨rfl, h2, rfl⟩ := hp
      exact vx_out (fun x h => (htb x h).elim) hlocks g1 g2 g3 (fun t ht hW => ⟨(_, _), (Or.inl ⟨rfl, by unfold zo_jo; rw [if_neg (fun h => h h1), if_pos h2], rfl⟩), ⟨rfl, by show za_G E b _ t.heap; rw [ht]; exact hG⟩, hS.F ht⟩) hS.2.2 (by omega) (by omega)
    · obtain ⟨rfl, h2, rfl⟩ := hp
      refine lv_astore (lv' := [(4, .ref (ad 9 (zs_ix p1))), (3, .ref (ad 9 (zs_ix p0))), (0, .ref (ad 0 0)), (1, .int p0), (2, .int p1)]) hx hb dX6_join_11 hl (by decide) rfl (fun ls hl => ?_)
      refine lv_aload_n hx hb dX6_join_13 rfl (lv_at hl 1 rfl) ?_
      refine lv_aload hx hb dX6_join_14 (lv_at hl 0 rfl) ?_
      refine zb_acmp_ne (tgt := 29) hx hb hG 9 (by decide) (some (zs_ix p0)) (some (zs_ix p1)) (by rintro _ ⟨⟩; exact (hJ.ro h1)) (by rintro _ ⟨⟩; exact (hJ.ro h2)) dX6_join_16 (by decide) (fun c_16 => ?_) (fun c_16 => ?_)
      · have hne : (zs_ix p0) ≠ (zs_ix p1) := fun q => c_16 (by rw [q])
        refine zb_iconst (n := 0) hx hb dX6_join_29 (by decide) ?_
        refine lv_istore (lv' := [(5, .int (nI 0)), (4, .ref (ad 9 (zs_ix p1))), (3, .ref (ad 9 (zs_ix p0))), (0, .ref (ad 0 0)), (1, .int p0), (2, .int p1)]) hx hb dX6_join_30 hl (by decide) rfl (fun ls hl => ?_)
        have loop32 : ∀ (N : Nat) (i : Nat), (i ≤ 10) → 10 - i < N → ∀ (H : Heap) (locs : List Loc), za_G E b (ad, (zs_jn S (zs_ix p0) (zs_ix p1) i), X, T, Y, ow, dw) H → va_S (za_A b) s.heap H locs → ∀ ls : Array Slot, lv_has ls 9 [(0, .ref (ad 0 0)), (3, .ref (ad 9 (zs_ix p0))), (4, .ref (ad 9 (zs_ix p1))), (5, .int (nI i))] → W pg l en ({ frames := 7, cells := 3, slots := 18, locals := 139 } : Room) s m ([.ref (ad 0 0), .int p0, .int p1] : List Value).toArray below meth c H locs (0 + 1 + 1) (0 + 6 + 6) (vx_MQ below (za_Qi E b (fun r u => zo_jo S (zs_ix p0) (zs_ix p1) = 0 ∧ r = nI ((zs_st (zs_fw (zs_jn S (zs_ix p0) (zs_ix p1) 10) (zs_ix p0) (zs_ix p1) 8) 10).1 5 (zs_ix p1) 0) ∧ ∃ X2, u = (ad, zs_st (zs_fw (zs_jn S (zs_ix p0) (zs_ix p1) 10) (zs_ix p0) (zs_ix p1) 8) 10, X2, T, Y, ow, dw) ∧ zs_fv X X2 ∧ zs_B X2 ∧ zs_ok (zs_st (zs_fw (zs_jn S (zs_ix p0) (zs_ix p1) 10) (zs_ix p0) (zs_ix p1) 8) 10) X2)) (za_X E b (fun En u => (En = "java/lang/IndexOutOfBoundsException" ∧ zo_jo S (zs_ix p0) (zs_ix p1) = 1 ∧ u = (ad, S, X, T, Y, ow, dw)) ∨ (En = "java/lang/IllegalArgumentException" ∧ zo_jo S (zs_ix p0) (zs_ix p1) = 2 ∧ u = (ad, S, X, T, Y, ow, dw)))) ([.ref (ad 0 0), .int p0, .int p1] : List Value).toArray s (3) (18) (za_A b)) (F0 m 32 ls []) := by
          intro N
          induction N with
          | zero => intro i hi hN; exact absurd hN (Nat.not_lt_zero _)
          | succ N ih32 =>
            intro i hi hN H locs hG hS ls hl
            obtain ⟨jQ, jc⟩ := zs_jn_f (a := (zs_ix p0)) hI.1 h2 hne i
            have jJ := zs_J_c hJ jc
            refine lv_iload hx hb dX6_join_32 (lv_at hl 3 rfl) ?_
            refine zb_bipush (n := 10) hx hb dX6_join_34 (by decide) ?_
            refine zb_icmp_ge (x := i) (y := 10) (tgt := 64) hx hb (by omega) (by omega) dX6_join_36 (by decide) (fun c_36 => ?_) (fun c_36 => ?_)
            · obtain rfl : i = 10 := by omega
              obtain ⟨jQ, jc⟩ := zs_jn_f (a := (zs_ix p0)) hI.1 h2 hne 10
              have jJ := zs_J_c hJ jc
              have h2j : (zs_ix p1) < (zs_jn S (zs_ix p0) (zs_ix p1) 10).1 0 1 0 := by rw [jc]; exact h2
              refine lv_aload_n hx hb dX6_join_64 rfl (lv_at hl 0 rfl) ?_
              refine zg_BR_recorders hx hb hts hinX6 hown hf23 hK hG dX6_join_65 ?_
              refine lv_astore (lv' := [(5, .ref (ad 3 0)), (0, .ref (ad 0 0)), (3, .ref (ad 9 (zs_ix p0))), (4, .ref (ad 9 (zs_ix p1)))]) hx hb dX6_join_68 hl (by decide) rfl (fun ls hl => ?_)
              refine lv_aload hx hb dX6_join_70 (lv_at hl 0 rfl) ?_
              refine zl_RC hx hb hK hG dX6_join_72 ?_
              refine lv_istore (lv' := [(6, .int (nI 8)), (5, .ref (ad 3 0)), (0, .ref (ad 0 0)), (3, .ref (ad 9 (zs_ix p0))), (4, .ref (ad 9 (zs_ix p1)))]) hx hb dX6_join_73 hl (by decide) rfl (fun ls hl => ?_)
              refine zb_iconst (n := 0) hx hb dX6_join_75 (by decide) ?_
              refine lv_istore (lv' := [(7, .int (nI 0)), (6, .int (nI 8)), (5, .ref (ad 3 0)), (0, .ref (ad 0 0)), (3, .ref (ad 9 (zs_ix p0))), (4, .ref (ad 9 (zs_ix p1)))]) hx hb dX6_join_76 hl (by decide) rfl (fun ls hl => ?_)
              have loop78 : ∀ (N : Nat) (j : Nat), (j ≤ 8) → 8 - j < N → ∀ (H : Heap) (locs : List Loc), za_G E b (ad, (zs_fw (zs_jn S (zs_ix p0) (zs_ix p1) 10) (zs_ix p0) (zs_ix p1) j), X, T, Y, ow, dw) H → va_S (za_A b) s.heap H locs → ∀ ls : Array Slot, lv_has ls 9 [(0, .ref (ad 0 0)), (3, .ref (ad 9 (zs_ix p0))), (4, .ref (ad 9 (zs_ix p1))), (5, .ref (ad 3 0)), (6, .int (nI 8)), (7, .int (nI j))] → W pg l en ({ frames := 7, cells := 3, slots := 18, locals := 139 } : Room) s m ([.ref (ad 0 0), .int p0, .int p1] : List Value).toArray below meth c H locs (0 + 1 + 1) (0 + 6 + 6) (vx_MQ below (za_Qi E b (fun r u => zo_jo S (zs_ix p0) (zs_ix p1) = 0 ∧ r = nI ((zs_st (zs_fw (zs_jn S (zs_ix p0) (zs_ix p1) 10) (zs_ix p0) (zs_ix p1) 8) 10).1 5 (zs_ix p1) 0) ∧ ∃ X2, u = (ad, zs_st (zs_fw (zs_jn S (zs_ix p0) (zs_ix p1) 10) (zs_ix p0) (zs_ix p1) 8) 10, X2, T, Y, ow, dw) ∧ zs_fv X X2 ∧ zs_B X2 ∧ zs_ok (zs_st (zs_fw (zs_jn S (zs_ix p0) (zs_ix p1) 10) (zs_ix p0) (zs_ix p1) 8) 10) X2)) (za_X E b (fun En u => (En = "java/lang/IndexOutOfBoundsException" ∧ zo_jo S (zs_ix p0) (zs_ix p1) = 1 ∧ u = (ad, S, X, T, Y, ow, dw)) ∨ (En = "java/lang/IllegalArgumentException" ∧ zo_jo S (zs_ix p0) (zs_ix p1) = 2 ∧ u = (ad, S, X, T, Y, ow, dw)))) ([.ref (ad 0 0), .int p0, .int p1] : List Value).toArray s (3) (18) (za_A b)) (F0 m 78 ls []) := by
                intro N
                induction N with
                | zero => intro j hj hN; exact absurd hN (Nat.not_lt_zero _)
                | succ N ih78 =>
                  intro j hj hN H locs hG hS ls hl
                  obtain ⟨fQ, f1, f2, f9⟩ := zs_fw_f jQ (zs_ix p0) h2j j
                  have fc := f1 0 (by decide)
                  have fJ := zs_J_c jJ fc
                  refine lv_iload hx hb dX6_join_78 (lv_at hl 5 rfl) ?_
                  refine lv_iload hx hb dX6_join_80 (lv_at hl 4 rfl) ?_
                  refine zb_icmp_ge (x := j) (y := 8) (tgt := 119) hx hb (by omega) (by omega) dX6_join_82 (by decide) (fun c_82 => ?_) (fun c_82 => ?_)
                  · obtain rfl : j = 8 := by omega
                    obtain ⟨fQ, f1, f2, f9⟩ := zs_fw_f jQ (zs_ix p0) h2j 8
                    have fc := f1 0 (by decide)
                    have fJ := zs_J_c jJ fc
                    refine lv_aload_n hx hb dX6_join_119 rfl (lv_at hl 0 rfl) ?_
                    refine zc_Vv (As := []) (rest := []) hK hZ hb0 hG hS hx hb hml hown hts (c_X6_settle l fJ (fun a r ha e => zs_J.ro fJ (zs_Q.ro fQ (by rw [(fJ).2.2.2.1] at ha; exact ha) e)) (fun a q ha e => zs_J.pe fJ (zs_Q.pi fQ (by rw [(fJ).2.2.2.1] at ha; exact ha) e).1) (zs_W_st fQ).Va hBX fQ.B) (cwV 0 hts gX6_join_X6_settle rfl rfl rfl (by decide +kernel) ⟨Nat.le_of_ble_eq_true rfl, Nat.le_of_ble_eq_true rfl⟩) (za_recv (q := (RX6, TX6, 11)) hK hG 0 0 ⟨by omega, rfl⟩ rfl rfl rfl) rfl hl rfl (Nat.le_of_ble_eq_true rfl) dX6_join_120 ⟨Nat.le_of_ble_eq_true rfl, Nat.le_of_ble_eq_true rfl⟩ (fun u_120 H locs hp hG hS => ?_)
                    obtain ⟨X2, rfl, q1, q2, q3⟩ := hp
                    refine lv_aload hx hb dX6_join_123 (lv_at hl 2 rfl) ?_
                    refine zg_RM_size hx hb hts hinX4 hown hf106 hK hG (zs_ix p1) (zs_J.ro (fJ.fv q1) (by rw [fc, jc]; exact h2)) (n := (zs_st (zs_fw (zs_jn S (zs_ix p0) (zs_ix p1) 10) (zs_ix p0) (zs_ix p1) 8) 10).1 5 (zs_ix p1) 0) rfl dX6_join_125 ?_
                    exact vx_ret (zm_iret hx hb hr hlocks hG hS (by omega) (by omega) ⟨by unfold zo_jo; rw [if_neg (fun h => h h1), if_neg (fun h => h h2), if_neg hne], rfl, X2, rfl, q1, q2, q3⟩ dX6_join_128)
                  · refine lv_aload hx hb dX6_join_85 (lv_at hl 3 rfl) ?_
                    refine lv_iload hx hb dX6_join_87 (lv_at hl 5 rfl) ?_
                    refine zld_RC (r := X.2 3 j 0) hx hb hK hG (by omega) rfl dX6_join_89 ?_
                    refine zb_ostore (ad := ad) (κ := 11) (r := X.2 3 j 0) (lv' := [(8, za_o ad 11 (X.2 3 j 0)), (0, .ref (ad 0 0)), (3, .ref (ad 9 (zs_ix p0))), (4, .ref (ad 9 (zs_ix p1))), (5, .ref (ad 3 0)), (6, .int (nI 8)), (7, .int (nI j))]) hx hb dX6_join_90 hl (by decide) rfl (fun ls hl => ?_)
                    refine zb_oload hx hb dX6_join_92 (lv_at hl 0 rfl) ?_
                    refine zb_ifnull (κ := 11) (r := X.2 3 j 0) (tgt := 113) hx hb dX6_join_94 (by decide) (fun c_94 => ?_) (fun x_1 c_94 => ?_)
                    · rw [c_94] at hl
                      refine zb_iinc (n := 1) (k := 6) (lv' := [(7, .int (nI (j + 1))), (8, .null), (0, .ref (ad 0 0)), (3, .ref (ad 9 (zs_ix p0))), (4, .ref (ad 9 (zs_ix p1))), (5, .ref (ad 3 0)), (6, .int (nI 8))]) hx hb dX6_join_113 hl rfl (by decide) (by decide) rfl (fun ls hl => ?_)
                      refine zb_goto (tgt := 78) hx hb dX6_join_116 (by decide) ?_
                      exact ih78 (j + 1) (by omega) (by omega) _ _ (by rw [zs_fw_n (fun h => fJ.kn c_94 (by rw [fc]; exact h.1))]; exact hG) hS ls (lv_sub hl [2, 3, 4, 5, 6, 0] rfl)
                    · rw [c_94] at hl
                      have hyi : x_1 = j := (fJ.k c_94).1
                      have hin1 : j < (zs_fw (zs_jn S (zs_ix p0) (zs_ix p1) 10) (zs_ix p0) (zs_ix p1) j).1 0 2 0 := (fJ.k c_94).2
                      have hin : j < (zs_jn S (zs_ix p0) (zs_ix p1) 10).1 0 2 0 := by rw [← fc]; exact hin1
                      have hf := fQ.fo hin1
                      have hf9 := f9 j (Nat.le_refl _)
                      rw [hyi] at hl
                      have hv_2 : ∀ z, X.2 3 j 0 = some z → z < X.1 5 2 0 := (fJ.kv j)
                      refine lv_aload hx hb dX6_join_97 (lv_at hl 0 rfl) ?_
                      refine zg_RE_followed hx hb hts hinX3 hown hf121 hK hG j (fJ.re hin1) (n := (zs_fw (zs_jn S (zs_ix p0) (zs_ix p1) 10) (zs_ix p0) (zs_ix p1) j).1 9 j 0) rfl dX6_join_99 ?_
                      refine lv_aload_n hx hb dX6_join_102 rfl (lv_at hl 2 rfl) ?_
                      refine zb_acmp_ne (tgt := 113) hx hb hG 9 (by decide) (some ((zs_fw (zs_jn S (zs_ix p0) (zs_ix p1) 10) (zs_ix p0) (zs_ix p1) j).1 9 j 0)) (some (zs_ix p0)) (by rintro _ ⟨⟩; exact (fJ.ro hf)) (by rintro _ ⟨⟩; exact (fJ.ro (by rw [fc, jc]; exact h1))) dX6_join_103 (by decide) (fun c_103 => ?_) (fun c_103 => ?_)
                      · refine zb_iinc (n := 1) (k := 6) (lv' := [(7, .int (nI (j + 1))), (8, .ref (ad 11 j)), (0, .ref (ad 0 0)), (3, .ref (ad 9 (zs_ix p0))), (4, .ref (ad 9 (zs_ix p1))), (5, .ref (ad 3 0)), (6, .int (nI 8))]) hx hb dX6_join_113 hl rfl (by decide) (by decide) rfl (fun ls hl => ?_)
                        refine zb_goto (tgt := 78) hx hb dX6_join_116 (by decide) ?_
                        exact ih78 (j + 1) (by omega) (by omega) _ _ (by rw [zs_fw_n (fun h => c_103 (by rw [hf9, h.2]))]; exact hG) hS ls (lv_sub hl [2, 3, 4, 5, 6, 0] rfl)
                      · refine lv_aload hx hb dX6_join_106 (lv_at hl 0 rfl) ?_
                        refine lv_aload hx hb dX6_join_108 (lv_at hl 3 rfl) ?_
                        refine zp_RE_followed hx hb hts hinX3 hown hf121 hS hK hG j (fJ.re hin1) dX6_join_110 (fun H locs hG hS => ?_)
                        refine zb_iinc (n := 1) (k := 6) (lv' := [(7, .int (nI (j + 1))), (8, .ref (ad 11 j)), (0, .ref (ad 0 0)), (3, .ref (ad 9 (zs_ix p0))), (4, .ref (ad 9 (zs_ix p1))), (5, .ref (ad 3 0)), (6, .int (nI 8))]) hx hb dX6_join_113 hl rfl (by decide) (by decide) rfl (fun ls hl => ?_)
                        refine zb_goto (tgt := 78) hx hb dX6_join_116 (by decide) ?_
                        exact ih78 (j + 1) (by omega) (by omega) _ _ (by rw [zs_fw_y ⟨hin, by rw [← hf9]; exact Option.some.inj c_103⟩]; exact hG) hS ls (lv_sub hl [2, 3, 4, 5, 6, 0] rfl)
              exact loop78 (_ + 1) 0 (Nat.zero_le _) (Nat.lt_succ_self _) _ _ hG hS ls (lv_sub hl [3, 4, 5, 2, 1, 0] rfl)
            · refine lv_aload_n hx hb dX6_join_39 rfl (lv_at hl 1 rfl) ?_
              refine zb_iconst (n := 0) hx hb dX6_join_40 (by decide) ?_
              refine zc_Vq (κ := 8) (As := [.int (nI 0)]) (rest := []) hK hZ hb0 hG hS hx hb hml hown hts (c_X4_atR l (zs_ix p0) (nI 0) (jJ.ro (by rw [jc]; exact h1)) hBX jQ.B) (cwV 1 hts gX6_join_X4_at rfl rfl rfl (by decide +kernel) ⟨Nat.le_of_ble_eq_true rfl, Nat.le_of_ble_eq_true rfl⟩) (za_recv (q := (RX4, TX4, 6)) hK hG 9 (zs_ix p0) (show (zs_ix p0) < X.1 5 1 0 from (jJ.ro (by rw [jc]; exact h1))) rfl rfl rfl) rfl hl rfl (Nat.le_of_ble_eq_true rfl) dX6_join_41 ⟨Nat.le_of_ble_eq_true rfl, Nat.le_of_ble_eq_true rfl⟩ (fun r_41 u_41 H locs hp hG hS => ?_)
              rw [zs_ixn (by decide)] at hp
              obtain ⟨rfl, rfl⟩ := hp
              refine zb_ostore (ad := ad) (κ := 8) (r := zs_at (zs_jn S (zs_ix p0) (zs_ix p1) i) (zs_ix p0) 0) (lv' := [(6, za_o ad 8 (zs_at (zs_jn S (zs_ix p0) (zs_ix p1) i) (zs_ix p0) 0)), (0, .ref (ad 0 0)), (3, .ref (ad 9 (zs_ix p0))), (4, .ref (ad 9 (zs_ix p1))), (5, .int (nI i))]) hx hb dX6_join_44 hl (by decide) rfl (fun ls hl => ?_)
              refine zb_oload hx hb dX6_join_46 (lv_at hl 0 rfl) ?_
              refine zb_ifnull (κ := 8) (r := zs_at (zs_jn S (zs_ix p0) (zs_ix p1) i) (zs_ix p0) 0) (tgt := 58) hx hb dX6_join_48 (by decide) (fun c_48 => ?_) (fun x_3 c_48 => ?_)
              · rw [c_48] at hl
                refine zb_iinc (n := 1) (k := 4) (lv' := [(5, .int (nI (i + 1))), (6, .null), (0, .ref (ad 0 0)), (3, .ref (ad 9 (zs_ix p0))), (4, .ref (ad 9 (zs_ix p1)))]) hx hb dX6_join_58 hl rfl (by decide) (by decide) rfl (fun ls hl => ?_)
                refine zb_goto (tgt := 32) hx hb dX6_join_61 (by decide) ?_
                exact ih32 (i + 1) (by omega) (by omega) _ _ (by rw [zs_jn_0 c_48]; exact hG) hS ls (lv_sub hl [2, 3, 4, 0] rfl)
              · rw [c_48] at hl
                have hv_4 : ∀ z, zs_at (zs_jn S (zs_ix p0) (zs_ix p1) i) (zs_ix p0) 0 = some z → z < X.1 5 0 0 := (fun x hx => jJ.pe (by rw [jc]; have h9 := (zs_at_in jQ hx).1; rw [jc] at h9; exact h9))
                refine lv_aload hx hb dX6_join_51 (lv_at hl 0 rfl) ?_
                refine lv_aload hx hb dX6_join_53 (lv_at hl 3 rfl) ?_
                refine zc_Sv (As := [.ref (ad 8 x_3), .ref (ad 9 (zs_ix p1))]) (rest := []) hK hZ hb0 hG hS hx hb hml hown hts (c_X6_move l x_3 (some (zs_ix p1)) (jJ.pe (zs_at_in jQ c_48).1) (zs_Q.mro jQ jJ (zs_at_in jQ c_48).1) (fun r i x e => jJ.pe (zs_Q.pe jQ r i x e)) (zs_Q.mto jQ jJ (zs_at_in jQ c_48).1 (by rintro _ ⟨⟩; rw [jc]; exact h2) (by rw [(zs_at_in jQ c_48).2]; exact fun q => hne (Option.some.inj q))) (zs_mo_B jQ.B x_3) hBX jQ.B) (cwS 2 hts gX6_join_X6_move rfl rfl rfl (by decide +kernel) ⟨Nat.le_of_ble_eq_true rfl, Nat.le_of_ble_eq_true rfl⟩) rfl hl rfl (Nat.le_of_ble_eq_true rfl) dX6_join_55 ⟨Nat.le_of_ble_eq_true rfl, Nat.le_of_ble_eq_true rfl⟩ (fun u_55 H locs hp hG hS => ?_)
                subst hp
                refine zb_iinc (n := 1) (k := 4) (lv' := [(5, .int (nI (i + 1))), (6, .ref (ad 8 x_3)), (0, .ref (ad 0 0)), (3, .ref (ad 9 (zs_ix p0))), (4, .ref (ad 9 (zs_ix p1)))]) hx hb dX6_join_58 hl rfl (by decide) (by decide) rfl (fun ls hl => ?_)
                refine zb_goto (tgt := 32) hx hb dX6_join_61 (by decide) ?_
                exact ih32 (i + 1) (by omega) (by omega) _ _ (by rw [zs_jn_s c_48]; exact hG) hS ls (lv_sub hl [2, 3, 4, 0] rfl)
        exact loop32 (_ + 1) 0 (Nat.zero_le _) (Nat.lt_succ_self _) _ _ hG hS ls (lv_sub hl [3, 2, 1, 0] rfl)
      · exact zt_throw (cls := "java/lang/IllegalArgumentException") (text := "both rooms are the same") (ik := 116) (is := 118) (ic := 120) hx hb hl0 hZ hG hS hml hl hown htb hlocks (by simp [za_exs]) (by simp [za_texts]) (by decide +kernel) hk116 hiIAE (fun w h => hts w (by simp only [wsX6_join, List.mem_cons, List.mem_append, h, or_true, true_or])) zt_ng_IAE zt_gd_IAE dX6_join_19 dX6_join_22 dX6_join_23 dX6_join_25 dX6_join_28 (by decide) (by decide) (by first | (show _ + 1 ≤ _; omega) | decide) (by first | (show _ + 6 ≤ _; omega) | decide) (by omega) (by omega) (Or.inr ⟨rfl, by unfold zo_jo; rw [if_neg (fun h => h h1), if_neg (fun h => h h2), if_pos (Option.some.inj c_16)], rfl⟩)
