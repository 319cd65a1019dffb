set_option maxRecDepth 100000 in
set_option maxHeartbeats 4000000 in
theorem c_X7_speaks (l : Launch) {E : za_E} {b : Nat} {ad : za_Ad} {S X T Y : za_S} {ow : Int64} {dw : UInt64} (r : Nat) (hr6 : r < 6) (hsz : T.1 5 r 0 ≤ 10) (hoc : ∀ j, j < T.1 5 r 0 → ∃ x, T.2 2 r j = some x ∧ x < 10) (hcv : ∀ x, zs_cand T r = some x → x < 10) (hsp : ∀ x, T.2 3 r 0 = some x → x < 10) (hch : ∀ x, T.2 4 r 0 = some x → x < 10) (h6 : T.1 6 r 0 ≤ 2) (ht : T.1 7 8 0 < 12000) (hBT : zs_B T) : Met l yX7_speaks wsX7_speaks ({ frames := 1, cells := 0, slots := 0, locals := 24 } : Room) (za_Pc E b (ad, S, X, T, Y, ow, dw) [.ref (ad 14 0), .int (nI r)]) (za_Qv E b (fun u => u = (ad, S, X, zs_t1 T r, Y, ow, dw))) (0) (0) (za_A b) := by
  refine zm_met (ccm := cX7_speaks) (maxL := 5) (ret := none) (ws' := _) (own := RX7) (lv := [(0, .ref (ad 14 0)), (1, .int (nI r))]) (by decide) rfl rfl rfl (by simp [lg_sl, Value.category]) ?_
  intro pg en s m below meth c hx hb hml hr hown hts hlocks hK hZ hb0 hG hS ls hl
  have hf16 := hts (.fieldLink RX7 16 "VideoBridgeModel" "louds" "[I") (by decide +kernel)
  have hf35 := hts (.fieldLink RX7 35 "VideoBridgeModel" "speakers" "[I") (by decide +kernel)
  have hf38 := hts (.fieldLink RX7 38 "VideoBridgeModel" "challengers" "[I") (by decide +kernel)
  have hf41 := hts (.fieldLink RX7 41 "VideoBridgeModel" "challenges" "[I") (by decide +kernel)
  have hinX7 : ∀ w ∈ u_ws RX7 TX7 25, w ∈ wsX7_speaks := by decide +kernel
  skip
  refine lv_aload_n hx hb dX7_speaks_0 rfl (lv_at hl 0 rfl) ?_
  refine lv_iload_n hx hb dX7_speaks_1 rfl (lv_at hl 1 rfl) ?_
  refine zc_Vi (As := [.int (nI r)]) (rest := []) hK hZ hb0 hG hS hx hb hml hown hts (c_X7_candidateOf l r hr6 hsz hoc hBT) (cwV 1 hts gX7_speaks_X7_candidateOf rfl rfl rfl (by decide +kernel) ⟨Nat.le_of_ble_eq_true rfl, Nat.le_of_ble_eq_true rfl⟩) (za_recv (q := (RX7, TX7, 25)) hK hG 14 0 ⟨by omega, rfl⟩ rfl rfl rfl) rfl hl rfl (Nat.le_of_ble_eq_true rfl) dX7_speaks_2 ⟨Nat.le_of_ble_eq_true rfl, Nat.le_of_ble_eq_true rfl⟩ (fun r_2 u_2 H locs hp hG hS => ?_)
  obtain ⟨rfl, rfl⟩ := hp
  refine lv_istore_n (lv' := [(2, .int (za_enc (zs_cand T r))), (0, .ref (ad 14 0)), (1, .int (nI r))]) hx hb dX7_speaks_5 rfl hl (by decide) rfl (fun ls hl => ?_)
  refine lv_aload_n hx hb dX7_speaks_6 rfl (lv_at hl 1 rfl) ?_
  refine zg_MO_speakers hx hb hts hinX7 hown hf35 hK hG dX7_speaks_7 ?_
  refine lv_iload_n hx hb dX7_speaks_10 rfl (lv_at hl 2 rfl) ?_
  refine zld_MK (r := T.2 3 r 0) hx hb hK hG (by omega) rfl dX7_speaks_11 ?_
  refine lv_istore_n (lv' := [(3, .int (za_enc (T.2 3 r 0))), (2, .int (za_enc (zs_cand T r))), (0, .ref (ad 14 0)), (1, .int (nI r))]) hx hb dX7_speaks_12 rfl hl (by decide) rfl (fun ls hl => ?_)
  refine lv_iload_n hx hb dX7_speaks_13 rfl (lv_at hl 0 rfl) ?_
  refine zb_iconstm hx hb dX7_speaks_14 ?_
  refine zb_ecmp_eq (tgt := 49) hx hb (T.2 3 r 0) none (fun x h => by have := hsp x h; omega) (by rintro _ ⟨⟩) dX7_speaks_15 (by decide) (fun c_15 => ?_) (fun c_15 => ?_)
  · skip
    rw [c_15] at hl
    have hl : lv_has ls 5 [(3, .int (za_enc none)), (2, .int (za_enc (zs_cand T r))), (0, .ref (ad 14 0)), (1, .int (nI r))] := hl
    refine zb_iconst (n := 0) hx hb dX7_speaks_49 (by decide) ?_
    refine lv_istore (lv' := [(4, .int (nI 0)), (3, .int (za_enc none)), (2, .int (za_enc (zs_cand T r))), (0, .ref (ad 14 0)), (1, .int (nI r))]) hx hb dX7_speaks_50 hl (by decide) rfl (fun ls hl => ?_)
    refine lv_iload_n hx hb dX7_speaks_52 rfl (lv_at hl 1 rfl) ?_
    refine zb_iconstm hx hb dX7_speaks_53 ?_
    refine zb_ecmp_ne (tgt := 68) hx hb none none (by rintro _ ⟨⟩) (by rintro _ ⟨⟩) dX7_speaks_54 (by decide) (fun c9 => absurd rfl c9) (fun _ => ?_)
    refine lv_iload_n hx hb dX7_speaks_57 rfl (lv_at hl 2 rfl) ?_
    refine zb_iconstm hx hb dX7_speaks_58 ?_
    refine zb_ecmp_eq (tgt := 68) hx hb (zs_cand T r) none (fun x h => by have := hcv x h; omega) (by rintro _ ⟨⟩) dX7_speaks_59 (by decide) (fun c_59 => ?_) (fun c_59 => ?_)
    · skip
      rw [c_59] at hl
      have hl : lv_has ls 5 [(4, .int (nI 0)), (3, .int (za_enc none)), (2, .int (za_enc none)), (0, .ref (ad 14 0)), (1, .int (nI r))] := hl
      refine lv_aload_n hx hb dX7_speaks_68 rfl (lv_at hl 3 rfl) ?_
      refine zg_MO_challenges hx hb hts hinX7 hown hf41 hK hG dX7_speaks_69 ?_
      refine lv_iload_n hx hb dX7_speaks_72 rfl (lv_at hl 4 rfl) ?_
      refine lv_iload hx hb dX7_speaks_73 (lv_at hl 0 rfl) ?_
      refine zb_if_ne (x := 0) (tgt := 82) hx hb (by decide) dX7_speaks_75 (by decide) (fun c9 => absurd c9 (by decide)) (fun _ => ?_)
      refine zb_iconst (n := 0) hx hb dX7_speaks_78 (by decide) ?_
      refine zb_goto (tgt := 104) hx hb dX7_speaks_79 (by decide) ?_
      refine zst_MH hx hb hK hG hS (by omega) dX7_speaks_104 (fun H locs hG hS => ?_)
      refine lv_aload_n hx hb dX7_speaks_105 rfl (lv_at hl 3 rfl) ?_
      refine zg_MO_challengers hx hb hts hinX7 hown hf38 hK hG dX7_speaks_106 ?_
      refine lv_iload_n hx hb dX7_speaks_109 rfl (lv_at hl 4 rfl) ?_
      refine lv_iload hx hb dX7_speaks_110 (lv_at hl 0 rfl) ?_
      refine zb_if_eq (x := 0) (tgt := 119) hx hb (by decide) dX7_speaks_112 (by decide) (fun _ => ?_) (fun c9 => absurd c9 (by decide))
      refine zb_iconstm hx hb dX7_speaks_119 ?_
      refine zst_MC hx hb hK hG hS (by omega) dX7_speaks_120 (fun H locs hG hS => ?_)
      refine lv_aload_n hx hb dX7_speaks_121 rfl (lv_at hl 3 rfl) ?_
      refine zg_MO_challenges hx hb hts hinX7 hown hf41 hK hG dX7_speaks_122 ?_
      refine lv_iload_n hx hb dX7_speaks_125 rfl (lv_at hl 4 rfl) ?_
      refine zld_MH (n := 0) hx hb hK hG (by omega) (by simp [za_N, za_P]) dX7_speaks_126 ?_
      refine zb_iconst (n := 3) hx hb dX7_speaks_127 (by decide) ?_
      refine zb_icmp_ne (x := 0) (y := 3) (tgt := 151) hx hb (by decide) (by decide) dX7_speaks_128 (by decide) (fun _ => ?_) (fun c9 => absurd c9 (by decide))
      exact zm_vret hx hb hr hlocks hG hS (by omega) (by omega) (congrArg (fun z => (ad, S, X, z, Y, ow, dw)) (zs_sk_n c_15 c_59)) dX7_speaks_151
    · obtain ⟨y_59, hy_59⟩ := Option.ne_none_iff_exists'.mp c_59
      have hc10 : y_59 < 10 := hcv _ hy_59
      rw [hy_59] at hl
      have hl : lv_has ls 5 [(4, .int (nI 0)), (3, .int (za_enc none)), (2, .int (nI y_59)), (0, .ref (ad 14 0)), (1, .int (nI r))] := hl
      refine lv_aload_n hx hb dX7_speaks_62 rfl (lv_at hl 3 rfl) ?_
      refine lv_iload_n hx hb dX7_speaks_63 rfl (lv_at hl 4 rfl) ?_
      refine lv_iload_n hx hb dX7_speaks_64 rfl (lv_at hl 2 rfl) ?_
      refine zc_Vv (As := [.int (nI r), .int (nI y_59)]) (rest := []) hK hZ hb0 hG hS hx hb hml hown hts (c_X7_becomes l r y_59 hr6 ht) (cwV 2 hts gX7_speaks_X7_becomes rfl rfl rfl (by decide +kernel) ⟨Nat.le_of_ble_eq_true rfl, Nat.le_of_ble_eq_true rfl⟩) (za_recv (q := (RX7, TX7, 25)) hK hG 14 0 ⟨by omega, rfl⟩ rfl rfl rfl) rfl hl rfl (Nat.le_of_ble_eq_true rfl) dX7_speaks_65 ⟨Nat.le_of_ble_eq_true rfl, Nat.le_of_ble_eq_true rfl⟩ (fun u_65 H locs hp hG hS => ?_)
      subst hp
      refine lv_aload_n hx hb dX7_speaks_68 rfl (lv_at hl 3 rfl) ?_
      refine zg_MO_challenges hx hb hts hinX7 hown hf41 hK hG dX7_speaks_69 ?_
      refine lv_iload_n hx hb dX7_speaks_72 rfl (lv_at hl 4 rfl) ?_
      refine lv_iload hx hb dX7_speaks_73 (lv_at hl 0 rfl) ?_
      refine zb_if_ne (x := 0) (tgt := 82) hx hb (by decide) dX7_speaks_75 (by decide) (fun c9 => absurd c9 (by decide)) (fun _ => ?_)
      refine zb_iconst (n := 0) hx hb dX7_speaks_78 (by decide) ?_
      refine zb_goto (tgt := 104) hx hb dX7_speaks_79 (by decide) ?_
      refine zst_MH hx hb hK hG hS (by omega) dX7_speaks_104 (fun H locs hG hS => ?_)
      refine lv_aload_n hx hb dX7_speaks_105 rfl (lv_at hl 3 rfl) ?_
      refine zg_MO_challengers hx hb hts hinX7 hown hf38 hK hG dX7_speaks_106 ?_
      refine lv_iload_n hx hb dX7_speaks_109 rfl (lv_at hl 4 rfl) ?_
      refine lv_iload hx hb dX7_speaks_110 (lv_at hl 0 rfl) ?_
      refine zb_if_eq (x := 0) (tgt := 119) hx hb (by decide) dX7_speaks_112 (by decide) (fun _ => ?_) (fun c9 => absurd c9 (by decide))
      refine zb_iconstm hx hb dX7_speaks_119 ?_
      refine zst_MC hx hb hK hG hS (by omega) dX7_speaks_120 (fun H locs hG hS => ?_)
      refine lv_aload_n hx hb dX7_speaks_121 rfl (lv_at hl 3 rfl) ?_
      refine zg_MO_challenges hx hb hts hinX7 hown hf41 hK hG dX7_speaks_122 ?_
      refine lv_iload_n hx hb dX7_speaks_125 rfl (lv_at hl 4 rfl) ?_
      refine zld_MH (n := 0) hx hb hK hG (by omega) (by simp [za_N, za_P]) dX7_speaks_126 ?_
      refine zb_iconst (n := 3) hx hb dX7_speaks_127 (by decide) ?_
      refine zb_icmp_ne (x := 0) (y := 3) (tgt := 151) hx hb (by decide) (by decide) dX7_speaks_128 (by decide) (fun _ => ?_) (fun c9 => absurd c9 (by decide))
      exact zm_vret hx hb hr hlocks hG hS (by omega) (by omega) (congrArg (fun z => (ad, S, X, z, Y, ow, dw)) (zs_sk_s c_15 hy_59)) dX7_speaks_151
  · obtain ⟨y_15, hy_15⟩ := Option.ne_none_iff_exists'.mp c_15
    have hs10 : y_15 < 10 := hsp _ hy_15
    rw [hy_15] at hl
    have hl : lv_has ls 5 [(3, .int (nI y_15)), (2, .int (za_enc (zs_cand T r))), (0, .ref (ad 14 0)), (1, .int (nI r))] := hl
    refine lv_iload_n hx hb dX7_speaks_18 rfl (lv_at hl 1 rfl) ?_
    refine zb_iconstm hx hb dX7_speaks_19 ?_
    refine zb_ecmp_eq (tgt := 49) hx hb (zs_cand T r) none (fun x h => by have := hcv x h; omega) (by rintro _ ⟨⟩) dX7_speaks_20 (by decide) (fun c_20 => ?_) (fun c_20 => ?_)
    · skip
      rw [c_20] at hl
      have hl : lv_has ls 5 [(3, .int (nI y_15)), (2, .int (za_enc none)), (0, .ref (ad 14 0)), (1, .int (nI r))] := hl
      have hlt : zs_lt T r (zs_cand T r) = false := by first | (rw [c_20]; rfl) | (rw [hy_20, zs_lt_d hy_15]; refine decide_eq_false ?_; omega) | (rw [hy_20, zs_lt_d hy_15]; refine decide_eq_false ?_; rw [c_25]; omega)
      refine zb_iconst (n := 0) hx hb dX7_speaks_49 (by decide) ?_
      refine lv_istore (lv' := [(4, .int (nI 0)), (3, .int (nI y_15)), (2, .int (za_enc none)), (0, .ref (ad 14 0)), (1, .int (nI r))]) hx hb dX7_speaks_50 hl (by decide) rfl (fun ls hl => ?_)
      refine lv_iload_n hx hb dX7_speaks_52 rfl (lv_at hl 1 rfl) ?_
      refine zb_iconstm hx hb dX7_speaks_53 ?_
      refine zb_ecmp_ne (tgt := 68) hx hb (some y_15) none (by rintro _ ⟨⟩; omega) (by rintro _ ⟨⟩) dX7_speaks_54 (by decide) (fun _ => ?_) (fun c9 => absurd c9 (fun h => by cases h))
      refine lv_aload_n hx hb dX7_speaks_68 rfl (lv_at hl 3 rfl) ?_
      refine zg_MO_challenges hx hb hts hinX7 hown hf41 hK hG dX7_speaks_69 ?_
      refine lv_iload_n hx hb dX7_speaks_72 rfl (lv_at hl 4 rfl) ?_
      refine lv_iload hx hb dX7_speaks_73 (lv_at hl 0 rfl) ?_
      refine zb_if_ne (x := 0) (tgt := 82) hx hb (by decide) dX7_speaks_75 (by decide) (fun c9 => absurd c9 (by decide)) (fun _ => ?_)
      refine zb_iconst (n := 0) hx hb dX7_speaks_78 (by decide) ?_
      refine zb_goto (tgt := 104) hx hb dX7_speaks_79 (by decide) ?_
      refine zst_MH hx hb hK hG hS (by omega) dX7_speaks_104 (fun H locs hG hS => ?_)
      refine lv_aload_n hx hb dX7_speaks_105 rfl (lv_at hl 3 rfl) ?_
      refine zg_MO_challengers hx hb hts hinX7 hown hf38 hK hG dX7_speaks_106 ?_
      refine lv_iload_n hx hb dX7_speaks_109 rfl (lv_at hl 4 rfl) ?_
      refine lv_iload hx hb dX7_speaks_110 (lv_at hl 0 rfl) ?_
      refine zb_if_eq (x := 0) (tgt := 119) hx hb (by decide) dX7_speaks_112 (by decide) (fun _ => ?_) (fun c9 => absurd c9 (by decide))
      refine zb_iconstm hx hb dX7_speaks_119 ?_
      refine zst_MC hx hb hK hG hS (by omega) dX7_speaks_120 (fun H locs hG hS => ?_)
      refine lv_aload_n hx hb dX7_speaks_121 rfl (lv_at hl 3 rfl) ?_
      refine zg_MO_challenges hx hb hts hinX7 hown hf41 hK hG dX7_speaks_122 ?_
      refine lv_iload_n hx hb dX7_speaks_125 rfl (lv_at hl 4 rfl) ?_
      refine zld_MH (n := 0) hx hb hK hG (by omega) (by simp [za_N, za_P]) dX7_speaks_126 ?_
      refine zb_iconst (n := 3) hx hb dX7_speaks_127 (by decide) ?_
      refine zb_icmp_ne (x := 0) (y := 3) (tgt := 151) hx hb (by decide) (by decide) dX7_speaks_128 (by decide) (fun _ => ?_) (fun c9 => absurd c9 (by decide))
      exact zm_vret hx hb hr hlocks hG hS (by omega) (by omega) (congrArg (fun z => (ad, S, X, z, Y, ow, dw)) (zs_sk_0 (fun z => by rw [hy_15] at z; cases z) hlt)) dX7_speaks_151
    · obtain ⟨y_20, hy_20⟩ := Option.ne_none_iff_exists'.mp c_20
      have hc10 : y_20 < 10 := hcv _ hy_20
      rw [hy_20] at hl
      have hl : lv_has ls 5 [(3, .int (nI y_15)), (2, .int (nI y_20)), (0, .ref (ad 14 0)), (1, .int (nI r))] := hl
      refine lv_iload_n hx hb dX7_speaks_23 rfl (lv_at hl 1 rfl) ?_
      refine lv_iload_n hx hb dX7_speaks_24 rfl (lv_at hl 0 rfl) ?_
      refine zb_icmp_eq (x := y_20) (y := y_15) (tgt := 49) hx hb (by omega) (by omega) dX7_speaks_25 (by decide) (fun c_25 => ?_) (fun c_25 => ?_)
      · have hlt : zs_lt T r (zs_cand T r) = false := by first | (rw [c_20]; rfl) | (rw [hy_20, zs_lt_d hy_15]; refine decide_eq_false ?_; omega) | (rw [hy_20, zs_lt_d hy_15]; refine decide_eq_false ?_; rw [c_25]; omega)
        refine zb_iconst (n := 0) hx hb dX7_speaks_49 (by decide) ?_
        refine lv_istore (lv' := [(4, .int (nI 0)), (3, .int (nI y_15)), (2, .int (nI y_20)), (0, .ref (ad 14 0)), (1, .int (nI r))]) hx hb dX7_speaks_50 hl (by decide) rfl (fun ls hl => ?_)
        refine lv_iload_n hx hb dX7_speaks_52 rfl (lv_at hl 1 rfl) ?_
        refine zb_iconstm hx hb dX7_speaks_53 ?_
        refine zb_ecmp_ne (tgt := 68) hx hb (some y_15) none (by rintro _ ⟨⟩; omega) (by rintro _ ⟨⟩) dX7_speaks_54 (by decide) (fun _ => ?_) (fun c9 => absurd c9 (fun h => by cases h))
        refine lv_aload_n hx hb dX7_speaks_68 rfl (lv_at hl 3 rfl) ?_
        refine zg_MO_challenges hx hb hts hinX7 hown hf41 hK hG dX7_speaks_69 ?_
        refine lv_iload_n hx hb dX7_speaks_72 rfl (lv_at hl 4 rfl) ?_
        refine lv_iload hx hb dX7_speaks_73 (lv_at hl 0 rfl) ?_
        refine zb_if_ne (x := 0) (tgt := 82) hx hb (by decide) dX7_speaks_75 (by decide) (fun c9 => absurd c9 (by decide)) (fun _ => ?_)
        refine zb_iconst (n := 0) hx hb dX7_speaks_78 (by decide) ?_
        refine zb_goto (tgt := 104) hx hb dX7_speaks_79 (by decide) ?_
        refine zst_MH hx hb hK hG hS (by omega) dX7_speaks_104 (fun H locs hG hS => ?_)
        refine lv_aload_n hx hb dX7_speaks_105 rfl (lv_at hl 3 rfl) ?_
        refine zg_MO_challengers hx hb hts hinX7 hown hf38 hK hG dX7_speaks_106 ?_
        refine lv_iload_n hx hb dX7_speaks_109 rfl (lv_at hl 4 rfl) ?_
        refine lv_iload hx hb dX7_speaks_110 (lv_at hl 0 rfl) ?_
        refine zb_if_eq (x := 0) (tgt := 119) hx hb (by decide) dX7_speaks_112 (by decide) (fun _ => ?_) (fun c9 => absurd c9 (by decide))
        refine zb_iconstm hx hb dX7_speaks_119 ?_
        refine zst_MC hx hb hK hG hS (by omega) dX7_speaks_120 (fun H locs hG hS => ?_)
        refine lv_aload_n hx hb dX7_speaks_121 rfl (lv_at hl 3 rfl) ?_
        refine zg_MO_challenges hx hb hts hinX7 hown hf41 hK hG dX7_speaks_122 ?_
        refine lv_iload_n hx hb dX7_speaks_125 rfl (lv_at hl 4 rfl) ?_
        refine zld_MH (n := 0) hx hb hK hG (by omega) (by simp [za_N, za_P]) dX7_speaks_126 ?_
        refine zb_iconst (n := 3) hx hb dX7_speaks_127 (by decide) ?_
        refine zb_icmp_ne (x := 0) (y := 3) (tgt := 151) hx hb (by decide) (by decide) dX7_speaks_128 (by decide) (fun _ => ?_) (fun c9 => absurd c9 (by decide))
        exact zm_vret hx hb hr hlocks hG hS (by omega) (by omega) (congrArg (fun z => (ad, S, X, z, Y, ow, dw)) (zs_sk_0 (fun z => by rw [hy_15] at z; cases z) hlt)) dX7_speaks_151
      · refine lv_aload_n hx hb dX7_speaks_28 rfl (lv_at hl 2 rfl) ?_
        refine zg_MO_louds hx hb hts hinX7 hown hf16 hK hG dX7_speaks_29 ?_
        refine lv_iload_n hx hb dX7_speaks_32 rfl (lv_at hl 1 rfl) ?_
        refine zld_ML (n := T.1 3 y_20 0) hx hb hK hG (by omega) rfl dX7_speaks_33 ?_
        refine lv_aload_n hx hb dX7_speaks_34 rfl (lv_at hl 2 rfl) ?_
        refine zg_MO_louds hx hb hts hinX7 hown hf16 hK hG dX7_speaks_35 ?_
        refine lv_iload_n hx hb dX7_speaks_38 rfl (lv_at hl 0 rfl) ?_
        refine zld_ML (n := T.1 3 y_15 0) hx hb hK hG (by omega) rfl dX7_speaks_39 ?_
        refine zb_iconst (n := 5) hx hb dX7_speaks_40 (by decide) ?_
        refine zb_iadd hx hb dX7_speaks_41 ?_
        refine zb_icmp_lt (x := T.1 3 y_20 0) (y := (T.1 3 y_15 0) + 5) (tgt := 49) hx hb (by have := hBT 3 y_20 0; omega) (by have := hBT 3 y_15 0; omega) dX7_speaks_42 (by decide) (fun c_42 => ?_) (fun c_42 => ?_)
        · have hlt : zs_lt T r (zs_cand T r) = false := by first | (rw [c_20]; rfl) | (rw [hy_20, zs_lt_d hy_15]; refine decide_eq_false ?_; omega) | (rw [hy_20, zs_lt_d hy_15]; refine decide_eq_false ?_; rw [c_25]; omega)
          refine zb_iconst (n := 0) hx hb dX7_speaks_49 (by decide) ?_
          refine lv_istore (lv' := [(4, .int (nI 0)), (3, .int (nI y_15)), (2, .int (nI y_20)), (0, .ref (ad 14 0)), (1, .int (nI r))]) hx hb dX7_speaks_50 hl (by decide) rfl (fun ls hl => ?_)
          refine lv_iload_n hx hb dX7_speaks_52 rfl (lv_at hl 1 rfl) ?_
          refine zb_iconstm hx hb dX7_speaks_53 ?_
          refine zb_ecmp_ne (tgt := 68) hx hb (some y_15) none (by rintro _ ⟨⟩; omega) (by rintro _ ⟨⟩) dX7_speaks_54 (by decide) (fun _ => ?_) (fun c9 => absurd c9 (fun h => by cases h))
          refine lv_aload_n hx hb dX7_speaks_68 rfl (lv_at hl 3 rfl) ?_
          refine zg_MO_challenges hx hb hts hinX7 hown hf41 hK hG dX7_speaks_69 ?_
          refine lv_iload_n hx hb dX7_speaks_72 rfl (lv_at hl 4 rfl) ?_
          refine lv_iload hx hb dX7_speaks_73 (lv_at hl 0 rfl) ?_
          refine zb_if_ne (x := 0) (tgt := 82) hx hb (by decide) dX7_speaks_75 (by decide) (fun c9 => absurd c9 (by decide)) (fun _ => ?_)
          refine zb_iconst (n := 0) hx hb dX7_speaks_78 (by decide) ?_
          refine zb_goto (tgt := 104) hx hb dX7_speaks_79 (by decide) ?_
          refine zst_MH hx hb hK hG hS (by omega) dX7_speaks_104 (fun H locs hG hS => ?_)
          refine lv_aload_n hx hb dX7_speaks_105 rfl (lv_at hl 3 rfl) ?_
          refine zg_MO_challengers hx hb hts hinX7 hown hf38 hK hG dX7_speaks_106 ?_
          refine lv_iload_n hx hb dX7_speaks_109 rfl (lv_at hl 4 rfl) ?_
          refine lv_iload hx hb dX7_speaks_110 (lv_at hl 0 rfl) ?_
          refine zb_if_eq (x := 0) (tgt := 119) hx hb (by decide) dX7_speaks_112 (by decide) (fun _ => ?_) (fun c9 => absurd c9 (by decide))
          refine zb_iconstm hx hb dX7_speaks_119 ?_
          refine zst_MC hx hb hK hG hS (by omega) dX7_speaks_120 (fun H locs hG hS => ?_)
          refine lv_aload_n hx hb dX7_speaks_121 rfl (lv_at hl 3 rfl) ?_
          refine zg_MO_challenges hx hb hts hinX7 hown hf41 hK hG dX7_speaks_122 ?_
          refine lv_iload_n hx hb dX7_speaks_125 rfl (lv_at hl 4 rfl) ?_
          refine zld_MH (n := 0) hx hb hK hG (by omega) (by simp [za_N, za_P]) dX7_speaks_126 ?_
          refine zb_iconst (n := 3) hx hb dX7_speaks_127 (by decide) ?_
          refine zb_icmp_ne (x := 0) (y := 3) (tgt := 151) hx hb (by decide) (by decide) dX7_speaks_128 (by decide) (fun _ => ?_) (fun c9 => absurd c9 (by decide))
          exact zm_vret hx hb hr hlocks hG hS (by omega) (by omega) (congrArg (fun z => (ad, S, X, z, Y, ow, dw)) (zs_sk_0 (fun z => by rw [hy_15] at z; cases z) hlt)) dX7_speaks_151
        · have hlt : zs_lt T r (zs_cand T r) = true := by rw [hy_20, zs_lt_d hy_15]; exact decide_eq_true (by omega)
          refine zb_iconst (n := 1) hx hb dX7_speaks_45 (by decide) ?_
          refine zb_goto (tgt := 50) hx hb dX7_speaks_46 (by decide) ?_
          refine lv_istore (lv' := [(4, .int (nI 1)), (3, .int (nI y_15)), (2, .int (nI y_20)), (0, .ref (ad 14 0)), (1, .int (nI r))]) hx hb dX7_speaks_50 hl (by decide) rfl (fun ls hl => ?_)
          refine lv_iload_n hx hb dX7_speaks_52 rfl (lv_at hl 1 rfl) ?_
          refine zb_iconstm hx hb dX7_speaks_53 ?_
          refine zb_ecmp_ne (tgt := 68) hx hb (some y_15) none (by rintro _ ⟨⟩; omega) (by rintro _ ⟨⟩) dX7_speaks_54 (by decide) (fun _ => ?_) (fun c9 => absurd c9 (fun h => by cases h))
          refine lv_aload_n hx hb dX7_speaks_68 rfl (lv_at hl 3 rfl) ?_
          refine zg_MO_challenges hx hb hts hinX7 hown hf41 hK hG dX7_speaks_69 ?_
          refine lv_iload_n hx hb dX7_speaks_72 rfl (lv_at hl 4 rfl) ?_
          refine lv_iload hx hb dX7_speaks_73 (lv_at hl 0 rfl) ?_
          refine zb_if_ne (x := 1) (tgt := 82) hx hb (by decide) dX7_speaks_75 (by decide) (fun _ => ?_) (fun c9 => absurd c9 (by decide))
          refine lv_aload_n hx hb dX7_speaks_82 rfl (lv_at hl 3 rfl) ?_
          refine zg_MO_challengers hx hb hts hinX7 hown hf38 hK hG dX7_speaks_83 ?_
          refine lv_iload_n hx hb dX7_speaks_86 rfl (lv_at hl 4 rfl) ?_
          refine zld_MC (r := T.2 4 r 0) hx hb hK hG (by omega) rfl dX7_speaks_87 ?_
          refine lv_iload_n hx hb dX7_speaks_88 rfl (lv_at hl 2 rfl) ?_
          refine zb_ecmp_ne (tgt := 103) hx hb (T.2 4 r 0) (some y_20) (fun x h => by have := hch x h; omega) (by rintro _ ⟨⟩; omega) dX7_speaks_89 (by decide) (fun c_89 => ?_) (fun c_89 => ?_)
          · refine zb_iconst (n := 1) hx hb dX7_speaks_103 (by decide) ?_
            have hchn : 1 = zs_chn T r := by unfold zs_chn; rw [hy_20]; first | exact (if_pos c_89.symm).symm | exact (if_neg (fun z => c_89 (Eq.symm z))).symm
            refine zst_MH hx hb hK hG hS (by omega) dX7_speaks_104 (fun H locs hG hS => ?_)
            refine lv_aload_n hx hb dX7_speaks_105 rfl (lv_at hl 3 rfl) ?_
            refine zg_MO_challengers hx hb hts hinX7 hown hf38 hK hG dX7_speaks_106 ?_
            refine lv_iload_n hx hb dX7_speaks_109 rfl (lv_at hl 4 rfl) ?_
            refine lv_iload hx hb dX7_speaks_110 (lv_at hl 0 rfl) ?_
            refine zb_if_eq (x := 1) (tgt := 119) hx hb (by decide) dX7_speaks_112 (by decide) (fun c9 => absurd c9 (by decide)) (fun _ => ?_)
            refine lv_iload_n hx hb dX7_speaks_115 rfl (lv_at hl 2 rfl) ?_
            refine zb_goto (tgt := 120) hx hb dX7_speaks_116 (by decide) ?_
            refine W.eq (g2 := F0 m 120 ls (.int (za_enc (some y_20)) :: [.int (nI r), .ref (ad 24 0)])) rfl ?_
            refine zst_MC hx hb hK hG hS (by omega) dX7_speaks_120 (fun H locs hG hS => ?_)
            refine lv_aload_n hx hb dX7_speaks_121 rfl (lv_at hl 3 rfl) ?_
            refine zg_MO_challenges hx hb hts hinX7 hown hf41 hK hG dX7_speaks_122 ?_
            refine lv_iload_n hx hb dX7_speaks_125 rfl (lv_at hl 4 rfl) ?_
            refine zld_MH (n := 1) hx hb hK hG (by omega) (by simp [za_N, za_P]) dX7_speaks_126 ?_
            refine zb_iconst (n := 3) hx hb dX7_speaks_127 (by decide) ?_
            refine zb_icmp_ne (x := 1) (y := 3) (tgt := 151) hx hb (by decide) (by decide) dX7_speaks_128 (by decide) (fun _ => ?_) (fun c9 => absurd c9 (by decide))
            exact zm_vret hx hb hr hlocks hG hS (by omega) (by omega) (congrArg (fun z => (ad, S, X, z, Y, ow, dw)) (zs_sk_1 (fun z => by rw [hy_15] at z; cases z) hlt hchn hy_20 (by omega))) dX7_speaks_151
          · refine lv_aload_n hx hb dX7_speaks_92 rfl (lv_at hl 3 rfl) ?_
            refine zg_MO_challenges hx hb hts hinX7 hown hf41 hK hG dX7_speaks_93 ?_
            refine lv_iload_n hx hb dX7_speaks_96 rfl (lv_at hl 4 rfl) ?_
            refine zld_MH (n := T.1 6 r 0) hx hb hK hG (by omega) rfl dX7_speaks_97 ?_
            refine zb_iconst (n := 1) hx hb dX7_speaks_98 (by decide) ?_
            refine zb_iadd hx hb dX7_speaks_99 ?_
            refine zb_goto (tgt := 104) hx hb dX7_speaks_100 (by decide) ?_
            have hchn : (T.1 6 r 0) + 1 = zs_chn T r := by unfold zs_chn; rw [hy_20]; first | exact (if_pos c_89.symm).symm | exact (if_neg (fun z => c_89 (Eq.symm z))).symm
            refine zst_MH hx hb hK hG hS (by omega) dX7_speaks_104 (fun H locs hG hS => ?_)
            refine lv_aload_n hx hb dX7_speaks_105 rfl (lv_at hl 3 rfl) ?_
            refine zg_MO_challengers hx hb hts hinX7 hown hf38 hK hG dX7_speaks_106 ?_
            refine lv_iload_n hx hb dX7_speaks_109 rfl (lv_at hl 4 rfl) ?_
            refine lv_iload hx hb dX7_speaks_110 (lv_at hl 0 rfl) ?_
            refine zb_if_eq (x := 1) (tgt := 119) hx hb (by decide) dX7_speaks_112 (by decide) (fun c9 => absurd c9 (by decide)) (fun _ => ?_)
            refine lv_iload_n hx hb dX7_speaks_115 rfl (lv_at hl 2 rfl) ?_
            refine zb_goto (tgt := 120) hx hb dX7_speaks_116 (by decide) ?_
            refine W.eq (g2 := F0 m 120 ls (.int (za_enc (some y_20)) :: [.int (nI r), .ref (ad 24 0)])) rfl ?_
            refine zst_MC hx hb hK hG hS (by omega) dX7_speaks_120 (fun H locs hG hS => ?_)
            refine lv_aload_n hx hb dX7_speaks_121 rfl (lv_at hl 3 rfl) ?_
            refine zg_MO_challenges hx hb hts hinX7 hown hf41 hK hG dX7_speaks_122 ?_
            refine lv_iload_n hx hb dX7_speaks_125 rfl (lv_at hl 4 rfl) ?_
            refine zld_MH (n := (T.1 6 r 0) + 1) hx hb hK hG (by omega) (by simp [za_N, za_P]) dX7_speaks_126 ?_
            refine zb_iconst (n := 3) hx hb dX7_speaks_127 (by decide) ?_
            refine zb_icmp_ne (x := (T.1 6 r 0) + 1) (y := 3) (tgt := 151) hx hb (by have := hBT 6 r 0; omega) (by omega) dX7_speaks_128 (by decide) (fun c_128 => ?_) (fun c_128 => ?_)
            · exact zm_vret hx hb hr hlocks hG hS (by omega) (by omega) (congrArg (fun z => (ad, S, X, z, Y, ow, dw)) (zs_sk_1 (fun z => by rw [hy_15] at z; cases z) hlt hchn hy_20 (by omega))) dX7_speaks_151
            · refine lv_aload_n hx hb dX7_speaks_131 rfl (lv_at hl 3 rfl) ?_
              refine lv_iload_n hx hb dX7_speaks_132 rfl (lv_at hl 4 rfl) ?_
              refine lv_iload_n hx hb dX7_speaks_133 rfl (lv_at hl 2 rfl) ?_
              refine zc_Vv (As := [.int (nI r), .int (nI y_20)]) (rest := []) hK hZ hb0 hG hS hx hb hml hown hts (c_X7_becomes l r y_20 hr6 ht) (cwV 2 hts gX7_speaks_X7_becomes rfl rfl rfl (by decide +kernel) ⟨Nat.le_of_ble_eq_true rfl, Nat.le_of_ble_eq_true rfl⟩) (za_recv (q := (RX7, TX7, 25)) hK hG 14 0 ⟨by omega, rfl⟩ rfl rfl rfl) rfl hl rfl (Nat.le_of_ble_eq_true rfl) dX7_speaks_134 ⟨Nat.le_of_ble_eq_true rfl, Nat.le_of_ble_eq_true rfl⟩ (fun u_134 H locs hp hG hS => ?_)
              subst hp
              refine lv_aload_n hx hb dX7_speaks_137 rfl (lv_at hl 3 rfl) ?_
              refine zg_MO_challenges hx hb hts hinX7 hown hf41 hK hG dX7_speaks_138 ?_
              refine lv_iload_n hx hb dX7_speaks_141 rfl (lv_at hl 4 rfl) ?_
              refine zb_iconst (n := 0) hx hb dX7_speaks_142 (by decide) ?_
              refine zst_MH hx hb hK hG hS (by omega) dX7_speaks_143 (fun H locs hG hS => ?_)
              refine lv_aload_n hx hb dX7_speaks_144 rfl (lv_at hl 3 rfl) ?_
              refine zg_MO_challengers hx hb hts hinX7 hown hf38 hK hG dX7_speaks_145 ?_
              refine lv_iload_n hx hb dX7_speaks_148 rfl (lv_at hl 4 rfl) ?_
              refine zb_iconstm hx hb dX7_speaks_149 ?_
              refine zst_MC hx hb hK hG hS (by omega) dX7_speaks_150 (fun H locs hG hS => ?_)
              exact zm_vret hx hb hr hlocks hG hS (by omega) (by omega) (congrArg (fun z => (ad, S, X, z, Y, ow, dw)) (zs_sk_2 (fun z => by rw [hy_15] at z; cases z) hlt hchn hy_20 (by omega))) dX7_speaks_151
