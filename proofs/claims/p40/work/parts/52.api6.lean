def zk_sm (ad ad2 : za_Ad) : Prop := ∀ κ, ¬ (6 ≤ κ ∧ κ ≤ 12) → ad2 κ 0 = ad κ 0
set_option maxRecDepth 100000 in
set_option maxHeartbeats 4000000 in
theorem c_X6_openRoom (l : Launch) {E : za_E} {b : Nat} {ad : za_Ad} {S X T Y : za_S} {ow : Int64} {dw : UInt64}  (hI : zs_I S) (hJ : zs_J S X) (h6r : S.1 0 1 0 < 6) : Met l yX6_openRoom wsX6_openRoom ({ frames := 2, cells := 2, slots := 16, locals := 33 } : Room) (za_PcA E b (ad, S, X, T, Y, ow, dw) [.ref (ad 0 0)]) (za_Qq E b 9 (fun r u => r = some (S.1 0 1 0) ∧ ∃ ad2, u = (ad2, zs_nr S, zk_x1 X (S.1 0 1 0), T, Y, ow, dw) ∧ ∀ κ i, ¬ (κ = 9 ∧ i = S.1 0 1 0) → ¬ (κ = 10 ∧ i = S.1 0 1 0) → ad2 κ i = ad κ i)) (2) (16) (za_A b) := by
  refine zm_metA (ccm := cX6_openRoom) (maxL := 2) (ret := (some (.object "VideoBridge$Room"))) (ws' := _) (own := RX6) (lv := [(0, .ref (ad 0 0))]) (by decide) rfl rfl rfl (by simp [lg_sl, Value.category]) ?_
  intro pg en s m below meth c hx hb hml hr hown hts hlocks hK hZ hAO hb0 hG hS ls hl
  have hf146 := hts (.fieldLink RX6 146 "VideoBridge" "roomCount" "I") (by decide +kernel)
  have hf17 := hts (.fieldLink RX6 17 "VideoBridge" "allRooms" "[LVideoBridge$Room;") (by decide +kernel)
  have hinX6 : ∀ w ∈ u_ws RX6 TX6 11, w ∈ wsX6_openRoom := by decide +kernel
  have hinX4 : ∀ w ∈ u_ws RX4 TX4 6, w ∈ wsX6_openRoom := by decide +kernel
  skip
  have hBS := hI.B
  refine zk_new (ci := 6) (fs := [.int 0, .null, .int 0, .null, .null, .int 0]) (C := RX4) (T := TX4) (N := 6) hx hb hts hinX4 tyX4 tyX4_ok hown (hts (.classLink RX6 15 RX4) (by decide +kernel)) (hts (.instantiable RX4 6) (by decide +kernel)) (hts (.initialized RX4) (by decide +kernel)) hK rfl (fun j hj => by rcases (show j = 0 ∨ j = 1 ∨ j = 2 ∨ j = 3 ∨ j = 4 ∨ j = 5 by omega) with rfl | rfl | rfl | rfl | rfl | rfl <;> rfl) hG hS (Nat.le_of_ble_eq_true rfl) (Nat.le_of_ble_eq_true rfl) dX6_openRoom_0 (fun q_0 H hP9 hqz hqs hlt hG hS => ?_)
  refine lv_dup hx hb dX6_openRoom_3 rfl ?_
  refine lv_aload_n hx hb dX6_openRoom_4 rfl (lv_at hl 0 rfl) ?_
  refine zg_BR_roomCount hx hb hts hinX6 hown hf146 hK hG (n := S.1 0 1 0) rfl dX6_openRoom_5 ?_
  refine zk_call (As := [.int (nI (S.1 0 1 0))]) (rest := [.ref q_0]) (L := [RX2]) (L' := [RX2]) hK ⟨hZ.2.2.2.2.1, (fun C h => by rw [List.mem_singleton.mp h]; exact hAO)⟩ (fun _ h => h) hb0 hqs hqz hG hlt hP9 hS hx hb hml hown hts (k_X4_init l (E := E) q_0 H.size (nI (S.1 0 1 0))) (cwI 1 hts gX6_openRoom_X4_init rfl rfl rfl (hts (.initialized RX4) (by decide +kernel)) (hts (.methodLink RX6 265 yX4_init) (by decide +kernel)) (hts (.instanceMethod yX4_init) (by decide +kernel)) rfl (by decide +kernel) ⟨Nat.le_of_ble_eq_true rfl, Nat.le_of_ble_eq_true rfl⟩) rfl hl rfl (Nat.le_of_ble_eq_true rfl) dX6_openRoom_8 ⟨Nat.le_of_ble_eq_true rfl, Nat.le_of_ble_eq_true rfl⟩ (fun t9 H locs ht9 hB9 hG hS hA9 => ?_)
  obtain ⟨q_0_0, hP9, hD9⟩ := hB9
  rw [ht9] at hP9
  have hG := za_room (n := S.1 0 1 0) hG hJ.2.2.2.2.1 hP9 hD9 hA9 (hI.1.2.2.2.2.2.2.2.2.2.2.2.2.2.2.2.1 _ (Nat.le_refl _)).1 (hI.1.2.2.2.2.2.2.2.2.2.2.2.2.2.2.2.1 _ (Nat.le_refl _)).2.1 (hI.1.2.2.2.2.2.2.2.2.2.2.2.2.2.2.2.1 _ (Nat.le_refl _)).2.2 (fun j x e => by have := hJ.r e; omega) (fun a x ha e => by have := hI.ro (by rw [hJ.2.2.2.1] at ha; exact ha) e; omega) (fun k hk => by have := hI.fo (by rw [hJ.2.2.2.2.2.1] at hk; exact hk); omega)
  have n9 : zk_ad (zk_ad ad 9 (S.1 0 1 0) q_0) 10 (S.1 0 1 0) q_0_0 9 (S.1 0 1 0) = q_0 := by rw [zk_ad2 _ (by omega), zk_ad1]
  have had : ∀ κ i, ¬ (κ = 9 ∧ i = S.1 0 1 0) → ¬ (κ = 10 ∧ i = S.1 0 1 0) → zk_ad (zk_ad ad 9 (S.1 0 1 0) q_0) 10 (S.1 0 1 0) q_0_0 κ i = ad κ i := fun κ i a1 a2 => by rw [zk_ad2 _ a2, zk_ad2 _ a1]
  obtain ⟨ad2, had2⟩ : ∃ z, z = zk_ad (zk_ad ad 9 (S.1 0 1 0) q_0) 10 (S.1 0 1 0) q_0_0 := ⟨_, rfl⟩
  rw [← had2] at hG n9 had
  rw [← had 0 0 (by omega) (by omega)] at hl
  refine W.eq (g2 := F0 m 11 ls [.ref (ad2 9 (S.1 0 1 0))]) (by rw [n9]) ?_
  refine lv_astore_n (lv' := [(1, .ref (ad2 9 (S.1 0 1 0))), (0, .ref (ad2 0 0))]) hx hb dX6_openRoom_11 rfl hl (by decide) rfl (fun ls hl => ?_)
  refine lv_aload_n hx hb dX6_openRoom_12 rfl (lv_at hl 1 rfl) ?_
  refine zg_BR_roomCount hx hb hts hinX6 hown hf146 hK hG (n := S.1 0 1 0) rfl dX6_openRoom_13 ?_
  refine zb_if_lt (x := S.1 0 1 0) (tgt := 51) hx hb (by have := hBS 0 1 0; omega) dX6_openRoom_16 (by decide) ?_
  refine lv_aload_n hx hb dX6_openRoom_19 rfl (lv_at hl 1 rfl) ?_
  refine zg_BR_roomCount hx hb hts hinX6 hown hf146 hK hG (n := S.1 0 1 0) rfl dX6_openRoom_20 ?_
  refine lv_aload_n hx hb dX6_openRoom_23 rfl (lv_at hl 1 rfl) ?_
  refine zg_BR_allRooms hx hb hts hinX6 hown hf17 hK hG dX6_openRoom_24 ?_
  refine zl_AR hx hb hK hG dX6_openRoom_27 ?_
  refine zb_icmp_ge (x := S.1 0 1 0) (y := 6) (tgt := 51) hx hb (by have := hBS 0 1 0; omega) (by omega) dX6_openRoom_28 (by decide) (fun c_28 => ?_) (fun c_28 => ?_)
  · omega
  · refine lv_aload_n hx hb dX6_openRoom_31 rfl (lv_at hl 1 rfl) ?_
    refine zg_BR_allRooms hx hb hts hinX6 hown hf17 hK hG dX6_openRoom_32 ?_
    refine lv_aload_n hx hb dX6_openRoom_35 rfl (lv_at hl 1 rfl) ?_
    refine zg_BR_roomCount hx hb hts hinX6 hown hf146 hK hG (n := S.1 0 1 0) rfl dX6_openRoom_36 ?_
    refine lv_aload_n hx hb dX6_openRoom_39 rfl (lv_at hl 0 rfl) ?_
    refine zst_AR hx hb hK hG hS (by omega) (show S.1 0 1 0 < (za_N X 5 1 0 (S.1 0 1 0 + 1)).1 5 1 0 by rw [za_Ns]; omega) dX6_openRoom_40 (fun H locs hG hS => ?_)
    refine lv_aload_n hx hb dX6_openRoom_41 rfl (lv_at hl 1 rfl) ?_
    refine lv_dup hx hb dX6_openRoom_42 rfl ?_
    refine zg_BR_roomCount hx hb hts hinX6 hown hf146 hK hG (n := S.1 0 1 0) rfl dX6_openRoom_43 ?_
    refine zb_iconst (n := 1) hx hb dX6_openRoom_46 (by decide) ?_
    refine zb_iadd hx hb dX6_openRoom_47 ?_
    refine zp_BR_roomCount hx hb hts hinX6 hown hf146 hS hK hG dX6_openRoom_48 (fun H locs hG hS => ?_)
    refine lv_aload_n hx hb dX6_openRoom_51 rfl (lv_at hl 0 rfl) ?_
    exact zm_qret (r := some (S.1 0 1 0)) hx hb hr hlocks hG hS (by omega) (by omega) ⟨rfl, ad2, rfl, had⟩ dX6_openRoom_52

set_option maxRecDepth 100000 in
set_option maxHeartbeats 4000000 in
theorem c_X6_addRoom (l : Launch) (hl0 : l.stackTraces = false) {E : za_E} {b : Nat} {ad : za_Ad} {S X T Y : za_S} {ow : Int64} {dw : UInt64}  (hD : zs_D S X) : vx_Met l yX6_addRoom wsX6_addRoom ({ frames := 6, cells := 5, slots := 40, locals := 82 } : Room) (za_PcA E b (ad, S, X, T, Y, ow, dw) [.ref (ad 0 0)]) (za_Qi E b (fun r u => zo_ar S = 0 ∧ r = nI (S.1 0 1 0) ∧ ∃ ad2 X2, u = (ad2, zs_nr S, X2, T, Y, ow, dw) ∧ zs_D (zs_nr S) X2 ∧ zk_sm ad ad2)) (za_X E b (fun En u => (En = "java/lang/IllegalStateException" ∧ zo_ar S = 1 ∧ u = (ad, S, X, T, Y, ow, dw)))) (5) (40) (za_A b) := by
  refine zx_metA (ccm := cX6_addRoom) (maxL := 1) (ret := (some .int)) (ws' := _) (own := RX6) (lv := [(0, .ref (ad 0 0))]) (by decide) rfl rfl rfl (by simp [lg_sl, Value.category]) ?_
  intro pg en s m below meth c hx hb hml hr hown hts hlocks htb hK hZ hAO hb0 hG hS ls hl
  have hf86 := hts (.fieldLink RX6 86 "VideoBridge$Room" "number" "I") (by decide +kernel)
  have hiISE := hts (.initialized "java/lang/IllegalStateException") (by decide +kernel)
  have hk51 := hts (.classLink RX6 51 "java/lang/IllegalStateException") (by decide +kernel)
  have hinX4 : ∀ w ∈ u_ws RX4 TX4 6, w ∈ wsX6_addRoom := by decide +kernel
  skip
  obtain ⟨hI, hJ, hBX, hok, hRe, hL⟩ := id hD
  have hBS := hI.B
  have hc1 := hI.c
  refine lv_aload_n hx hb dX6_addRoom_0 rfl (lv_at hl 0 rfl) ?_
  refine zc_Vi (As := []) (rest := []) hK hZ hb0 hG hS hx hb hml hown hts (c_X6_isRoomLeft l hBS) (cwV 0 hts gX6_addRoom_X6_isRoomLeft rfl rfl rfl (by decide +kernel) ⟨Nat.le_of_ble_eq_true rfl, Nat.le_of_ble_eq_true rfl⟩) (za_recv (q := (RX6, TX6, 11)) hK hG 0 0 ⟨by omega, rfl⟩ rfl rfl rfl) rfl hl rfl (Nat.le_of_ble_eq_true rfl) dX6_addRoom_1 ⟨Nat.le_of_ble_eq_true rfl, Nat.le_of_ble_eq_true rfl⟩ (fun r_1 u_1 H locs hp hG hS => ?_)
  obtain ⟨rfl, rfl⟩ := hp
  refine zb_if_ne (x := if S.1 0 1 0 < 6 then 1 else 0) (tgt := 17) hx hb (zs_cl _) dX6_addRoom_4 (by decide) (fun c_4 => ?_) (fun c_4 => ?_)
  · have q_4 : S.1 0 1 0 < 6 := zs_c1 c_4
    have h6r : S.1 0 1 0 < 6 := q_4
    refine lv_aload_n hx hb dX6_addRoom_17 rfl (lv_at hl 0 rfl) ?_
    refine zc_AVq (κ := 9) (As := []) (rest := []) hK hZ hAO hb0 hG hS hx hb hml hown hts (c_X6_openRoom l hI hJ h6r) (cwV 0 hts gX6_addRoom_X6_openRoom rfl rfl rfl (by decide +kernel) ⟨Nat.le_of_ble_eq_true rfl, Nat.le_of_ble_eq_true rfl⟩) (za_recv (q := (RX6, TX6, 11)) hK hG 0 0 ⟨by omega, rfl⟩ rfl rfl rfl) rfl hl rfl (Nat.le_of_ble_eq_true rfl) dX6_addRoom_18 ⟨Nat.le_of_ble_eq_true rfl, Nat.le_of_ble_eq_true rfl⟩ (fun r_18 u_18 H locs hp hG hS => ?_)
    obtain ⟨rfl, ad2, rfl, had⟩ := hp
    have hD2 := zs_D_nr hD h6r
    have hJ2 := hD2.2.1
    have c2r : (zs_nr S).1 0 1 0 = S.1 0 1 0 + 1 := za_Ns _ _ _ _ _
    rw [← had 0 0 (by omega) (by omega)] at hl
    refine zg_RM_number hx hb hts hinX4 hown hf86 hK hG (S.1 0 1 0) (show S.1 0 1 0 < (zk_x1 X (S.1 0 1 0)).1 5 1 0 from hJ2.ro (by omega)) dX6_addRoom_21 ?_
    exact vx_ret (zm_iret hx hb hr hlocks hG hS (by omega) (by omega) ⟨by unfold zo_ar; rw [if_neg (fun h => h h6r)], rfl, ad2, _, rfl, hD2, fun κ hκ => had κ 0 (by omega) (by omega)⟩ dX6_addRoom_24)
  · have q_4 : ¬ (S.1 0 1 0 < 6) := zs_c0 c_4
    exact zt_throw (cls := "java/lang/IllegalStateException") (text := "there are no more rooms") (ik := 51) (is := 80) (ic := 55) hx hb hl0 hZ hG hS hml hl hown htb hlocks (by simp [za_exs]) (by simp [za_texts]) (by decide +kernel) hk51 hiISE (fun w h => hts w (by simp only [wsX6_addRoom, List.mem_cons, List.mem_append, h, or_true, true_or])) zt_ng_ISE zt_gd_ISE dX6_addRoom_7 dX6_addRoom_10 dX6_addRoom_11 dX6_addRoom_13 dX6_addRoom_16 (by decide) (by decide) (by first | (show _ + 1 ≤ _; omega) | decide) (by first | (show _ + 6 ≤ _; omega) | decide) (by omega) (by omega) ⟨rfl, by unfold zo_ar; rw [if_pos q_4], rfl⟩

set_option maxRecDepth 100000 in
set_option maxHeartbeats 4000000 in
theorem c_X6_split (l : Launch) (hl0 : l.stackTraces = false) {E : za_E} {b : Nat} {ad : za_Ad} {S X T Y : za_S} {ow : Int64} {dw : UInt64} (p0 : Int32) (hD : zs_D S X) : vx_Met l yX6_split wsX6_split ({ frames := 7, cells := 5, slots := 40, locals := 139 } : Room) (za_PcA E b (ad, S, X, T, Y, ow, dw) [.ref (ad 0 0), .int p0]) (za_Qi E b (fun r u => zo_sp S (zs_ix p0) = 0 ∧ r = nI (S.1 0 1 0) ∧ ∃ ad2 X2, u = (ad2, zs_st (zs_spl (zs_nr S) (zs_ix p0) (S.1 0 1 0) 9) 10, X2, T, Y, ow, dw) ∧ zs_D (zs_st (zs_spl (zs_nr S) (zs_ix p0) (S.1 0 1 0) 9) 10) X2 ∧ zk_sm ad ad2)) (za_X E b (fun En u => (En = "java/lang/IndexOutOfBoundsException" ∧ zo_sp S (zs_ix p0) = 1 ∧ u = (ad, S, X, T, Y, ow, dw)) ∨ (En = "java/lang/IllegalStateException" ∧ zo_sp S (zs_ix p0) = 2 ∧ u = (ad, S, X, T, Y, ow, dw)))) (5) (40) (za_A b) := by
  refine zx_metA (ccm := cX6_split) (maxL := 6) (ret := (some .int)) (ws' := _) (own := RX6) (lv := [(0, .ref (ad 0 0)), (1, .int p0)]) (by decide) rfl rfl rfl (by simp [lg_sl, Value.category]) ?_
  intro pg en s m below meth c hx hb hml hr hown hts hlocks htb hK hZ hAO hb0 hG hS ls hl
  have hf106 := hts (.fieldLink RX6 106 "VideoBridge$Room" "size" "I") (by decide +kernel)
  have hf86 := hts (.fieldLink RX6 86 "VideoBridge$Room" "number" "I") (by decide +kernel)
  have hiISE := hts (.initialized "java/lang/IllegalStateException") (by decide +kernel)
  have hk51 := hts (.classLink RX6 51 "java/lang/IllegalStateException") (by decide +kernel)
  have hinX4 : ∀ w ∈ u_ws RX4 TX4 6, w ∈ wsX6_split := by decide +kernel
  skip
  obtain ⟨hI, hJ, hBX, hok, hRe, hL⟩ := id hD
  have hBS := hI.B
  have hc1 := hI.c
  refine lv_aload_n hx hb dX6_split_0 rfl (lv_at hl 0 rfl) ?_
  refine lv_iload_n hx hb dX6_split_1 rfl (lv_at hl 1 rfl) ?_
  refine zc_xVq (κ := 9) (As := [.int p0]) (rest := []) hK hZ hb0 hG hS hx hb hml hown hts (c_X6_roomNumbered l hl0 p0 hJ hBX hBS) (cwV 1 hts gX6_split_X6_roomNumbered rfl rfl rfl (by decide +kernel) ⟨Nat.le_of_ble_eq_true rfl, Nat.le_of_ble_eq_true rfl⟩) (za_recv (q := (RX6, TX6, 11)) hK hG 0 0 ⟨by omega, rfl⟩ rfl rfl rfl) rfl hl rfl (Nat.le_of_ble_eq_true rfl) dX6_split_2 ⟨Nat.le_of_ble_eq_true rfl, Nat.le_of_ble_eq_true rfl⟩ (fun En ce q9 u_2 H locs hp hG hS g1 g2 g3 => ?_) (fun r_2 u_2 H locs hp hG hS => ?_)
  · obtain ⟨rfl, h1, rfl⟩ := hp
    exact vx_out (fun x h => (htb x h).elim) hlocks g1 g2 g3 (fun t ht hW => ⟨(_, _), (Or.inl ⟨rfl, by unfold zo_sp; rw [if_pos h1], rfl⟩), ⟨rfl, by show za_G E b _ t.heap; rw [ht]; exact hG⟩, hS.F ht⟩) hS.2.2 (by omega) (by omega)
  · obtain ⟨rfl, h1, rfl⟩ := hp
    refine lv_astore_n (lv' := [(2, .ref (ad 9 (zs_ix p0))), (0, .ref (ad 0 0)), (1, .int p0)]) hx hb dX6_split_5 rfl hl (by decide) rfl (fun ls hl => ?_)
    refine lv_aload_n hx hb dX6_split_6 rfl (lv_at hl 0 rfl) ?_
    refine zg_RM_size hx hb hts hinX4 hown hf106 hK hG (zs_ix p0) (hJ.ro h1) (n := S.1 5 (zs_ix p0) 0) rfl dX6_split_7 ?_
    refine zb_iconst (n := 2) hx hb dX6_split_10 (by decide) ?_
    refine zb_icmp_lt (x := S.1 5 (zs_ix p0) 0) (y := 2) (tgt := 21) hx hb (by have := hBS 5 (zs_ix p0) 0; omega) (by omega) dX6_split_11 (by decide) (fun c_11 => ?_) (fun c_11 => ?_)
    · exact zt_throw (cls := "java/lang/IllegalStateException") (text := "the room cannot be split") (ik := 51) (is := 111) (ic := 55) hx hb hl0 hZ hG hS hml hl hown htb hlocks (by simp [za_exs]) (by simp [za_texts]) (by decide +kernel) hk51 hiISE (fun w h => hts w (by simp only [wsX6_split, List.mem_cons, List.mem_append, h, or_true, true_or])) zt_ng_ISE zt_gd_ISE dX6_split_21 dX6_split_24 dX6_split_25 dX6_split_27 dX6_split_30 (by decide) (by decide) (by first | (show _ + 1 ≤ _; omega) | decide) (by first | (show _ + 6 ≤ _; omega) | decide) (by omega) (by omega) (Or.inr ⟨rfl, by unfold zo_sp; rw [if_neg (fun h => h h1), if_pos (by first | exact Or.inl c_11 | exact Or.inr q_18)], rfl⟩)
    · refine lv_aload_n hx hb dX6_split_14 rfl (lv_at hl 1 rfl) ?_
      refine zc_Vi (As := []) (rest := []) hK hZ hb0 hG hS hx hb hml hown hts (c_X6_isRoomLeft l hBS) (cwV 0 hts gX6_split_X6_isRoomLeft rfl rfl rfl (by decide +kernel) ⟨Nat.le_of_ble_eq_true rfl, Nat.le_of_ble_eq_true rfl⟩) (za_recv (q := (RX6, TX6, 11)) hK hG 0 0 ⟨by omega, rfl⟩ rfl rfl rfl) rfl hl rfl (Nat.le_of_ble_eq_true rfl) dX6_split_15 ⟨Nat.le_of_ble_eq_true rfl, Nat.le_of_ble_eq_true rfl⟩ (fun r_15 u_15 H locs hp hG hS => ?_)
      obtain ⟨rfl, rfl⟩ := hp
      refine zb_if_ne (x := if S.1 0 1 0 < 6 then 1 else 0) (tgt := 31) hx hb (zs_cl _) dX6_split_18 (by decide) (fun c_18 => ?_) (fun c_18 => ?_)
      · have q_18 : S.1 0 1 0 < 6 := zs_c1 c_18
        have h6r : S.1 0 1 0 < 6 := q_18
        refine lv_aload_n hx hb dX6_split_31 rfl (lv_at hl 1 rfl) ?_
        refine zc_AVq (κ := 9) (As := []) (rest := []) hK hZ hAO hb0 hG hS hx hb hml hown hts (c_X6_openRoom l hI hJ h6r) (cwV 0 hts gX6_split_X6_openRoom rfl rfl rfl (by decide +kernel) ⟨Nat.le_of_ble_eq_true rfl, Nat.le_of_ble_eq_true rfl⟩) (za_recv (q := (RX6, TX6, 11)) hK hG 0 0 ⟨by omega, rfl⟩ rfl rfl rfl) rfl hl rfl (Nat.le_of_ble_eq_true rfl) dX6_split_32 ⟨Nat.le_of_ble_eq_true rfl, Nat.le_of_ble_eq_true rfl⟩ (fun r_32 u_32 H locs hp hG hS => ?_)
        obtain ⟨rfl, ad2, rfl, had⟩ := hp
        have hD2 := zs_D_nr hD h6r
        have hJ2 := hD2.2.1
        have c2r : (zs_nr S).1 0 1 0 = S.1 0 1 0 + 1 := za_Ns _ _ _ _ _
        rw [← had 0 0 (by omega) (by omega)] at hl
        rw [← had 9 (zs_ix p0) (by omega) (by omega)] at hl
        have hN9 := hD2.1.1
        have hNb : S.1 0 1 0 < (zs_nr S).1 0 1 0 := by omega
        have hNn : (zs_ix p0) ≠ S.1 0 1 0 := by omega
        have hBX2 := hD2.2.2.1
        refine lv_astore_n (lv' := [(3, .ref (ad2 9 (S.1 0 1 0))), (2, .ref (ad2 9 (zs_ix p0))), (0, .ref (ad2 0 0)), (1, .int p0)]) hx hb dX6_split_35 rfl hl (by decide) rfl (fun ls hl => ?_)
        refine zb_iconst (n := 1) hx hb dX6_split_36 (by decide) ?_
        refine lv_istore (lv' := [(4, .int (nI 1)), (3, .ref (ad2 9 (S.1 0 1 0))), (2, .ref (ad2 9 (zs_ix p0))), (0, .ref (ad2 0 0)), (1, .int p0)]) hx hb dX6_split_37 hl (by decide) rfl (fun ls hl => ?_)
        have loop39 : ∀ (N : Nat) (i : Nat), (i ≤ 9) → 10 - i < N → ∀ (H : Heap) (locs : List Loc), za_G E b (ad2, (zs_spl (zs_nr S) (zs_ix p0) (S.1 0 1 0) i), (zk_x1 X (S.1 0 1 0)), T, Y, ow, dw) H → va_S (za_A b) s.heap H locs → ∀ ls : Array Slot, lv_has ls 6 [(0, .ref (ad2 0 0)), (2, .ref (ad2 9 (zs_ix p0))), (3, .ref (ad2 9 (S.1 0 1 0))), (4, .int (nI (i + 1)))] → W pg l en ({ frames := 7, cells := 5, slots := 40, locals := 139 } : Room) s m ([.ref (ad 0 0), .int p0] : List Value).toArray below meth c H locs (0 + 1 + 0 + 2) (0 + 6 + 0 + 16) (vx_MQ below (za_Qi E b (fun r u => zo_sp S (zs_ix p0) = 0 ∧ r = nI (S.1 0 1 0) ∧ ∃ ad2 X2, u = (ad2, zs_st (zs_spl (zs_nr S) (zs_ix p0) (S.1 0 1 0) 9) 10, X2, T, Y, ow, dw) ∧ zs_D (zs_st (zs_spl (zs_nr S) (zs_ix p0) (S.1 0 1 0) 9) 10) X2 ∧ zk_sm ad ad2)) (za_X E b (fun En u => (En = "java/lang/IndexOutOfBoundsException" ∧ zo_sp S (zs_ix p0) = 1 ∧ u = (ad, S, X, T, Y, ow, dw)) ∨ (En = "java/lang/IllegalStateException" ∧ zo_sp S (zs_ix p0) = 2 ∧ u = (ad, S, X, T, Y, ow, dw)))) ([.ref (ad 0 0), .int p0] : List Value).toArray s (5) (40) (za_A b)) (F0 m 39 ls []) := by
          intro N
          induction N with
          | zero => intro i hi hN; exact absurd hN (Nat.not_lt_zero _)
          | succ N ih39 =>
            intro i hi hN H locs hG hS ls hl
            obtain ⟨jQ, jc, -, -⟩ := zs_spl_f hN9 hNb hNn i
            have jJ := zs_J_c hJ2 jc
            refine lv_iload hx hb dX6_split_39 (lv_at hl 3 rfl) ?_
            refine zb_bipush (n := 10) hx hb dX6_split_41 (by decide) ?_
            refine zb_icmp_ge (x := i + 1) (y := 10) (tgt := 71) hx hb (by omega) (by omega) dX6_split_43 (by decide) (fun c_43 => ?_) (fun c_43 => ?_)
            · obtain rfl : i = 9 := by omega
              obtain ⟨jQ, jc, -, -⟩ := zs_spl_f hN9 hNb hNn 9
              have jJ := zs_J_c hJ2 jc
              refine lv_aload_n hx hb dX6_split_71 rfl (lv_at hl 0 rfl) ?_
              refine zc_Vv (As := []) (rest := []) hK hZ hb0 hG hS hx hb hml hown hts (c_X6_settle l jJ (fun a r ha e => zs_J.ro jJ (zs_Q.ro jQ (by rw [(jJ).2.2.2.1] at ha; exact ha) e)) (fun a q ha e => zs_J.pe jJ (zs_Q.pi jQ (by rw [(jJ).2.2.2.1] at ha; exact ha) e).1) (zs_W_st jQ).Va hBX2 jQ.B) (cwV 0 hts gX6_split_X6_settle rfl rfl rfl (by decide +kernel) ⟨Nat.le_of_ble_eq_true rfl, Nat.le_of_ble_eq_true rfl⟩) (za_recv (q := (RX6, TX6, 11)) hK hG 0 0 ⟨by omega, rfl⟩ rfl rfl rfl) rfl hl rfl (Nat.le_of_ble_eq_true rfl) dX6_split_72 ⟨Nat.le_of_ble_eq_true rfl, Nat.le_of_ble_eq_true rfl⟩ (fun u_72 H locs hp hG hS => ?_)
              obtain ⟨X2, rfl, q1, q2, q3⟩ := hp
              refine lv_aload_n hx hb dX6_split_75 rfl (lv_at hl 2 rfl) ?_
              refine zg_RM_number hx hb hts hinX4 hown hf86 hK hG (S.1 0 1 0) (zs_J.ro (jJ.fv q1) (by rw [jc]; exact hNb)) dX6_split_76 ?_
              exact vx_ret (zm_iret hx hb hr hlocks hG hS (by omega) (by omega) ⟨by unfold zo_sp; rw [if_neg (fun h => h h1), if_neg (by omega)], rfl, ad2, X2, rfl, zd_mk hD2 (zs_W_st jQ) jc (zs_spl_1 _ _ _ (by decide) (by decide) 9) (zs_spl_1 _ _ _ (by decide) (by decide) 9) q1 q2 q3, fun κ hκ => had κ 0 (by omega) (by omega)⟩ dX6_split_79)
            · refine lv_aload_n hx hb dX6_split_46 rfl (lv_at hl 1 rfl) ?_
              refine lv_iload hx hb dX6_split_47 (lv_at hl 3 rfl) ?_
              refine zc_Vq (κ := 8) (As := [.int (nI (i + 1))]) (rest := []) hK hZ hb0 hG hS hx hb hml hown hts (c_X4_at l (zs_ix p0) (i + 1) (jJ.ro (by rw [jc]; omega)) (by omega) hBX2 jQ.B) (cwV 1 hts gX6_split_X4_at rfl rfl rfl (by decide +kernel) ⟨Nat.le_of_ble_eq_true rfl, Nat.le_of_ble_eq_true rfl⟩) (za_recv (q := (RX4, TX4, 6)) hK hG 9 (zs_ix p0) (show (zs_ix p0) < (zk_x1 X (S.1 0 1 0)).1 5 1 0 from (show (zs_ix p0) < (zk_x1 X (S.1 0 1 0)).1 5 1 0 from hJ2.ro (by omega))) rfl rfl rfl) rfl hl rfl (Nat.le_of_ble_eq_true rfl) dX6_split_49 ⟨Nat.le_of_ble_eq_true rfl, Nat.le_of_ble_eq_true rfl⟩ (fun r_49 u_49 H locs hp hG hS => ?_)
              obtain ⟨rfl, rfl⟩ := hp
              refine zb_ostore (ad := ad2) (κ := 8) (r := zs_at (zs_spl (zs_nr S) (zs_ix p0) (S.1 0 1 0) i) (zs_ix p0) (i + 1)) (lv' := [(5, za_o ad2 8 (zs_at (zs_spl (zs_nr S) (zs_ix p0) (S.1 0 1 0) i) (zs_ix p0) (i + 1))), (0, .ref (ad2 0 0)), (2, .ref (ad2 9 (zs_ix p0))), (3, .ref (ad2 9 (S.1 0 1 0))), (4, .int (nI (i + 1)))]) hx hb dX6_split_52 hl (by decide) rfl (fun ls hl => ?_)
              refine zb_oload hx hb dX6_split_54 (lv_at hl 0 rfl) ?_
              refine zb_ifnull (κ := 8) (r := zs_at (zs_spl (zs_nr S) (zs_ix p0) (S.1 0 1 0) i) (zs_ix p0) (i + 1)) (tgt := 65) hx hb dX6_split_56 (by decide) (fun c_56 => ?_) (fun x_1 c_56 => ?_)
              · rw [c_56] at hl
                refine zb_iinc (n := 1) (k := 4) (lv' := [(4, .int (nI ((i + 1) + 1))), (5, .null), (0, .ref (ad2 0 0)), (2, .ref (ad2 9 (zs_ix p0))), (3, .ref (ad2 9 (S.1 0 1 0)))]) hx hb dX6_split_65 hl rfl (by decide) (by decide) rfl (fun ls hl => ?_)
                refine zb_goto (tgt := 39) hx hb dX6_split_68 (by decide) ?_
                exact ih39 (i + 1) (by omega) (by omega) _ _ (by rw [zs_spl_0 c_56]; exact hG) hS ls (lv_sub hl [2, 3, 4, 0] rfl)
              · rw [c_56] at hl
                have hv_2 : ∀ z, zs_at (zs_spl (zs_nr S) (zs_ix p0) (S.1 0 1 0) i) (zs_ix p0) (i + 1) = some z → z < (zk_x1 X (S.1 0 1 0)).1 5 0 0 := (fun x hx => jJ.pe (by have h9 := (zs_at_in jQ hx).1; exact h9))
                refine lv_aload hx hb dX6_split_59 (lv_at hl 0 rfl) ?_
                refine lv_aload_n hx hb dX6_split_61 rfl (lv_at hl 3 rfl) ?_
                refine zc_Sv (As := [.ref (ad2 8 x_1), .ref (ad2 9 (S.1 0 1 0))]) (rest := []) hK hZ hb0 hG hS hx hb hml hown hts (c_X6_move l x_1 (some (S.1 0 1 0)) (jJ.pe (zs_at_in jQ c_56).1) (zs_Q.mro jQ jJ (zs_at_in jQ c_56).1) (fun r i x e => jJ.pe (zs_Q.pe jQ r i x e)) (zs_Q.mto jQ jJ (zs_at_in jQ c_56).1 (by rintro _ ⟨⟩; rw [jc]; exact hNb) (by rw [(zs_at_in jQ c_56).2]; exact fun q => hNn (Option.some.inj q))) (zs_mo_B jQ.B x_1) hBX2 jQ.B) (cwS 2 hts gX6_split_X6_move rfl rfl rfl (by decide +kernel) ⟨Nat.le_of_ble_eq_true rfl, Nat.le_of_ble_eq_true rfl⟩) rfl hl rfl (Nat.le_of_ble_eq_true rfl) dX6_split_62 ⟨Nat.le_of_ble_eq_true rfl, Nat.le_of_ble_eq_true rfl⟩ (fun u_62 H locs hp hG hS => ?_)
                subst hp
                refine zb_iinc (n := 1) (k := 4) (lv' := [(4, .int (nI ((i + 1) + 1))), (5, .ref (ad2 8 x_1)), (0, .ref (ad2 0 0)), (2, .ref (ad2 9 (zs_ix p0))), (3, .ref (ad2 9 (S.1 0 1 0)))]) hx hb dX6_split_65 hl rfl (by decide) (by decide) rfl (fun ls hl => ?_)
                refine zb_goto (tgt := 39) hx hb dX6_split_68 (by decide) ?_
                exact ih39 (i + 1) (by omega) (by omega) _ _ (by rw [zs_spl_s c_56]; exact hG) hS ls (lv_sub hl [2, 3, 4, 0] rfl)
        exact loop39 (_ + 1) 0 (Nat.zero_le _) (Nat.lt_succ_self _) _ _ hG hS ls (lv_sub hl [3, 2, 1, 0] rfl)
      · have q_18 : ¬ (S.1 0 1 0 < 6) := zs_c0 c_18
        exact zt_throw (cls := "java/lang/IllegalStateException") (text := "the room cannot be split") (ik := 51) (is := 111) (ic := 55) hx hb hl0 hZ hG hS hml hl hown htb hlocks (by simp [za_exs]) (by simp [za_texts]) (by decide +kernel) hk51 hiISE (fun w h => hts w (by simp only [wsX6_split, List.mem_cons, List.mem_append, h, or_true, true_or])) zt_ng_ISE zt_gd_ISE dX6_split_21 dX6_split_24 dX6_split_25 dX6_split_27 dX6_split_30 (by decide) (by decide) (by first | (show _ + 1 ≤ _; omega) | decide) (by first | (show _ + 6 ≤ _; omega) | decide) (by omega) (by omega) (Or.inr ⟨rfl, by unfold zo_sp; rw [if_neg (fun h => h h1), if_pos (by first | exact Or.inl c_11 | exact Or.inr q_18)], rfl⟩)

set_option maxRecDepth 100000 in
set_option maxHeartbeats 4000000 in
theorem c_X6_addPerson (l : Launch) (hl0 : l.stackTraces = false) {E : za_E} {b : Nat} {ad : za_Ad} {S X T Y : za_S} {ow : Int64} {dw : UInt64} (p0 : Int32) (hD : zs_D S X) : vx_Met l yX6_addPerson wsX6_addPerson ({ frames := 7, cells := 5, slots := 40, locals := 103 } : Room) (za_Pc E b (ad, S, X, T, Y, ow, dw) [.ref (ad 0 0), .int p0]) (za_Qi E b (fun r u => zo_ap S (zs_ix p0) = 0 ∧ r = nI (S.1 0 0 0) ∧ ∃ ad2 X2, u = (ad2, zs_np S (zs_ix p0), X2, T, Y, ow, dw) ∧ zs_D (zs_np S (zs_ix p0)) X2 ∧ zk_sm ad ad2)) (za_X E b (fun En u => (En = "java/lang/IllegalArgumentException" ∧ zo_ap S (zs_ix p0) = 1 ∧ u = (ad, S, X, T, Y, ow, dw)) ∨ (En = "java/lang/IllegalStateException" ∧ zo_ap S (zs_ix p0) = 2 ∧ u = (ad, S, X, T, Y, ow, dw)))) (5) (40) (za_A b) := by
  refine zx_met (ccm := cX6_addPerson) (maxL := 3) (ret := (some .int)) (ws' := _) (own := RX6) (lv := [(0, .ref (ad 0 0)), (1, .int p0)]) (by decide) rfl rfl rfl (by simp [lg_sl, Value.category]) ?_
  intro pg en s m below meth c hx hb hml hr hown hts hlocks htb hK hZ hb0 hG hS ls hl
  have hf11 := hts (.fieldLink RX6 11 "VideoBridge" "everybody" "[LVideoBridge$Person;") (by decide +kernel)
  have hf47 := hts (.fieldLink RX6 47 "VideoBridge" "peopleCount" "I") (by decide +kernel)
  have hiISE := hts (.initialized "java/lang/IllegalStateException") (by decide +kernel)
  have hk51 := hts (.classLink RX6 51 "java/lang/IllegalStateException") (by decide +kernel)
  have hinX6 : ∀ w ∈ u_ws RX6 TX6 11, w ∈ wsX6_addPerson := by decide +kernel
  have hinX2 : ∀ w ∈ u_ws RX2 TX2 8, w ∈ wsX6_addPerson := by decide +kernel
  skip
  obtain ⟨hI, hJ, hBX, hok, hRe, hL⟩ := id hD
  have hBS := hI.B
  have hc1 := hI.c
  refine zb_sipush (n := 9999) hx hb dX6_addPerson_0 (by decide) ?_
  refine lv_iload_n hx hb dX6_addPerson_3 rfl (lv_at hl 1 rfl) ?_
  refine zc_xSv (As := [.int (nI 9999), .int p0]) (rest := []) hK hZ hb0 hG hS hx hb hml hown hts (c_X6_requireUpTo l hl0 9999 p0 (by decide)) (cwS 2 hts gX6_addPerson_X6_requireUpTo rfl rfl rfl (by decide +kernel) ⟨Nat.le_of_ble_eq_true rfl, Nat.le_of_ble_eq_true rfl⟩) rfl hl rfl (Nat.le_of_ble_eq_true rfl) dX6_addPerson_4 ⟨Nat.le_of_ble_eq_true rfl, Nat.le_of_ble_eq_true rfl⟩ (fun En ce q9 u_4 H locs hp hG hS g1 g2 g3 => ?_) (fun u_4 H locs hp hG hS => ?_)
  · obtain ⟨rfl, h2, rfl⟩ := hp
    exact vx_out (fun x h => (htb x h).elim) hlocks g1 g2 g3 (fun t ht hW => ⟨(_, _), (Or.inl ⟨rfl, by unfold zo_ap; rw [if_pos h2], rfl⟩), ⟨rfl, by show za_G E b _ t.heap; rw [ht]; exact hG⟩, hS.F ht⟩) hS.2.2 (by omega) (by omega)
  · obtain ⟨h2, rfl⟩ := hp
    have hl : lv_has ls 3 [(0, .ref (ad 0 0)), (1, .int (nI (zs_ix p0)))] := by rw [zs_ixe (Nat.lt_succ_of_le h2) (by omega)]; exact hl
    refine lv_aload_n hx hb dX6_addPerson_7 rfl (lv_at hl 0 rfl) ?_
    refine zg_BR_peopleCount hx hb hts hinX6 hown hf47 hK hG (n := S.1 0 0 0) rfl dX6_addPerson_8 ?_
    refine lv_istore_n (lv' := [(2, .int (nI (S.1 0 0 0))), (0, .ref (ad 0 0)), (1, .int (nI (zs_ix p0)))]) hx hb dX6_addPerson_11 rfl hl (by decide) rfl (fun ls hl => ?_)
    refine lv_iload_n hx hb dX6_addPerson_12 rfl (lv_at hl 0 rfl) ?_
    refine zb_if_lt (x := S.1 0 0 0) (tgt := 25) hx hb (by have := hBS 0 0 0; omega) dX6_addPerson_13 (by decide) ?_
    refine lv_iload_n hx hb dX6_addPerson_16 rfl (lv_at hl 0 rfl) ?_
    refine lv_aload_n hx hb dX6_addPerson_17 rfl (lv_at hl 1 rfl) ?_
    refine zg_BR_everybody hx hb hts hinX6 hown hf11 hK hG dX6_addPerson_18 ?_
    refine zl_EV hx hb hK hG dX6_addPerson_21 ?_
    refine zb_icmp_lt (x := S.1 0 0 0) (y := 10) (tgt := 35) hx hb (by have := hBS 0 0 0; omega) (by omega) dX6_addPerson_22 (by decide) (fun c_22 => ?_) (fun c_22 => ?_)
    · refine lv_aload_n hx hb dX6_addPerson_35 rfl (lv_at hl 1 rfl) ?_
      refine zg_BR_everybody hx hb hts hinX6 hown hf11 hK hG dX6_addPerson_36 ?_
      refine lv_iload_n hx hb dX6_addPerson_39 rfl (lv_at hl 0 rfl) ?_
      refine zk_new (ci := 4) (fs := [.int 0, .null, .int 0, .int 0, .int 0, .long 0, .null, .null]) (C := RX2) (T := TX2) (N := 8) hx hb hts hinX2 tyX2 tyX2_ok hown (hts (.classLink RX6 9 RX2) (by decide +kernel)) (hts (.instantiable RX2 8) (by decide +kernel)) (hts (.initialized RX2) (by decide +kernel)) hK rfl (fun j hj => by rcases (show j = 0 ∨ j = 1 ∨ j = 2 ∨ j = 3 ∨ j = 4 ∨ j = 5 ∨ j = 6 ∨ j = 7 by omega) with rfl | rfl | rfl | rfl | rfl | rfl | rfl | rfl <;> rfl) hG hS (Nat.le_of_ble_eq_true rfl) (Nat.le_of_ble_eq_true rfl) dX6_addPerson_40 (fun q_40 H hP9 hqz hqs hlt hG hS => ?_)
      refine lv_dup hx hb dX6_addPerson_43 rfl ?_
      refine lv_iload_n hx hb dX6_addPerson_44 rfl (lv_at hl 0 rfl) ?_
      refine lv_iload_n hx hb dX6_addPerson_45 rfl (lv_at hl 2 rfl) ?_
      refine zk_call (As := [.int (nI (S.1 0 0 0)), .int (nI (zs_ix p0))]) (rest := [.ref q_40, .int (nI (S.1 0 0 0)), .ref (ad 1 0)]) (L := []) (L' := []) hK ⟨hZ.2.2.2.2.1, (fun C h => by cases h)⟩ (fun _ h => h) hb0 hqs hqz hG hlt hP9 hS hx hb hml hown hts (k_X2_init l (E := E) q_40 H.size (nI (S.1 0 0 0)) (nI (zs_ix p0))) (cwI 2 hts gX6_addPerson_X2_init rfl rfl rfl (hts (.initialized RX2) (by decide +kernel)) (hts (.methodLink RX6 58 yX2_init) (by decide +kernel)) (hts (.instanceMethod yX2_init) (by decide +kernel)) rfl (by decide +kernel) ⟨Nat.le_of_ble_eq_true rfl, Nat.le_of_ble_eq_true rfl⟩) rfl hl rfl (Nat.le_of_ble_eq_true rfl) dX6_addPerson_46 ⟨Nat.le_of_ble_eq_true rfl, Nat.le_of_ble_eq_true rfl⟩ (fun t9 H locs ht9 hB9 hG hS hA9 => ?_)
      obtain ⟨q_40_0, q_40_1, hP9, hD9⟩ := hB9
      rw [ht9] at hP9
      have hG := za_person (n := S.1 0 0 0) (v := zs_ix p0) hG hJ.2.2.2.1 (by omega) hP9 hD9 hA9 (hI.1.2.2.2.2.2.2.2.2.2.2.2.2.2.2.1 _ (Nat.le_refl _)).1 (hI.1.2.2.2.2.2.2.2.2.2.2.2.2.2.2.1 _ (Nat.le_refl _)).2.1 (hI.1.2.2.2.2.2.2.2.2.2.2.2.2.2.2.1 _ (Nat.le_refl _)).2.2 (fun j x e => by have := hJ.e e; omega) hI.pe (fun i x hi e => (hI.pi hi e).1) (fun r x hr e => (hI.sp (by rw [hJ.2.2.2.2.1] at hr; exact hr) e).1) (fun r x hr e => hI.ch (by rw [hJ.2.2.2.2.1] at hr; exact hr) e)
      have n8 : zk_a3 ad (S.1 0 0 0) q_40 q_40_0 q_40_1 8 (S.1 0 0 0) = q_40 := by unfold zk_a3; rw [zk_ad2 _ (by omega), zk_ad2 _ (by omega), zk_ad1]
      have e00 : zk_a3 ad (S.1 0 0 0) q_40 q_40_0 q_40_1 0 0 = ad 0 0 := rfl
      have e10 : zk_a3 ad (S.1 0 0 0) q_40 q_40_0 q_40_1 1 0 = ad 1 0 := rfl
      obtain ⟨ad2, had2⟩ : ∃ z, z = zk_a3 ad (S.1 0 0 0) q_40 q_40_0 q_40_1 := ⟨_, rfl⟩
      rw [← had2] at hG n8 e00 e10
      rw [← e00] at hl
      refine W.eq (g2 := F0 m 49 ls [.ref (ad2 8 (S.1 0 0 0)), .int (nI (S.1 0 0 0)), .ref (ad2 1 0)]) (by rw [n8, e10]) ?_
      refine zst_EV hx hb hK hG hS (by omega) (show S.1 0 0 0 < (zk_x3 X (S.1 0 0 0)).1 5 0 0 by unfold zk_x3; rw [za_Ns]; omega) dX6_addPerson_49 (fun H locs hG hS => ?_)
      refine lv_aload_n hx hb dX6_addPerson_50 rfl (lv_at hl 1 rfl) ?_
      refine lv_iload_n hx hb dX6_addPerson_51 rfl (lv_at hl 0 rfl) ?_
      refine zb_iconst (n := 1) hx hb dX6_addPerson_52 (by decide) ?_
      refine zb_iadd hx hb dX6_addPerson_53 ?_
      refine zp_BR_peopleCount hx hb hts hinX6 hown hf47 hS hK hG dX6_addPerson_54 (fun H locs hG hS => ?_)
      refine lv_iload_n hx hb dX6_addPerson_57 rfl (lv_at hl 0 rfl) ?_
      exact vx_ret (zm_iret hx hb hr hlocks hG hS (by omega) (by omega) ⟨by unfold zo_ap; rw [if_neg (fun h => h h2), if_neg (by omega)], rfl, ad2, _, rfl, zs_D_np hD (by omega) h2, fun κ hκ => by rw [had2]; unfold zk_a3; rw [zk_ad2 _ (by omega), zk_ad2 _ (by omega), zk_ad2 _ (by omega)]; exact if_neg (by omega)⟩ dX6_addPerson_58)
    · exact zt_throw (cls := "java/lang/IllegalStateException") (text := "there are no more people") (ik := 51) (is := 53) (ic := 55) hx hb hl0 hZ hG hS hml hl hown htb hlocks (by simp [za_exs]) (by simp [za_texts]) (by decide +kernel) hk51 hiISE (fun w h => hts w (by simp only [wsX6_addPerson, List.mem_cons, List.mem_append, h, or_true, true_or])) zt_ng_ISE zt_gd_ISE dX6_addPerson_25 dX6_addPerson_28 dX6_addPerson_29 dX6_addPerson_31 dX6_addPerson_34 (by decide) (by decide) (by first | (show _ + 1 ≤ _; omega) | decide) (by first | (show _ + 6 ≤ _; omega) | decide) (by omega) (by omega) (Or.inr ⟨rfl, by unfold zo_ap; rw [if_neg (fun h => h h2), if_pos (by omega)], rfl⟩)

set_option maxRecDepth 100000 in
set_option maxHeartbeats 4000000 in
theorem c_X6_record (l : Launch) (hl0 : l.stackTraces = false) {E : za_E} {b : Nat} {ad : za_Ad} {S X T Y : za_S} {ow : Int64} {dw : UInt64} (p0 : Int32) (hD : zs_D S X) : vx_Met l yX6_record wsX6_record ({ frames := 7, cells := 5, slots := 40, locals := 104 } : Room) (za_Pc E b (ad, S, X, T, Y, ow, dw) [.ref (ad 0 0), .int p0]) (za_Qi E b (fun r u => zo_rec S (zs_ix p0) = 0 ∧ r = nI (S.1 0 2 0) ∧ ∃ ad2 X2, u = (ad2, zs_nk S (zs_ix p0), X2, T, Y, ow, dw) ∧ zs_D (zs_nk S (zs_ix p0)) X2 ∧ zk_sm ad ad2)) (za_X E b (fun En u => (En = "java/lang/IndexOutOfBoundsException" ∧ zo_rec S (zs_ix p0) = 1 ∧ u = (ad, S, X, T, Y, ow, dw)) ∨ (En = "java/lang/IllegalStateException" ∧ zo_rec S (zs_ix p0) = 2 ∧ u = (ad, S, X, T, Y, ow, dw)))) (5) (40) (za_A b) := by
  refine zx_met (ccm := cX6_record) (maxL := 4) (ret := (some .int)) (ws' := _) (own := RX6) (lv := [(0, .ref (ad 0 0)), (1, .int p0)]) (by decide) rfl rfl rfl (by simp [lg_sl, Value.category]) ?_
  intro pg en s m below meth c hx hb hml hr hown hts hlocks htb hK hZ hb0 hG hS ls hl
  have hf219 := hts (.fieldLink RX6 219 "VideoBridge" "recorderCount" "I") (by decide +kernel)
  have hf23 := hts (.fieldLink RX6 23 "VideoBridge" "recorders" "[LVideoBridge$Recorder;") (by decide +kernel)
  have hiISE := hts (.initialized "java/lang/IllegalStateException") (by decide +kernel)
  have hk51 := hts (.classLink RX6 51 "java/lang/IllegalStateException") (by decide +kernel)
  have hinX6 : ∀ w ∈ u_ws RX6 TX6 11, w ∈ wsX6_record := by decide +kernel
  have hinX3 : ∀ w ∈ u_ws RX3 TX3 3, w ∈ wsX6_record := by decide +kernel
  skip
  obtain ⟨hI, hJ, hBX, hok, hRe, hL⟩ := id hD
  have hBS := hI.B
  have hc1 := hI.c
  refine lv_aload_n hx hb dX6_record_0 rfl (lv_at hl 0 rfl) ?_
  refine lv_iload_n hx hb dX6_record_1 rfl (lv_at hl 1 rfl) ?_
  refine zc_xVq (κ := 9) (As := [.int p0]) (rest := []) hK hZ hb0 hG hS hx hb hml hown hts (c_X6_roomNumbered l hl0 p0 hJ hBX hBS) (cwV 1 hts gX6_record_X6_roomNumbered rfl rfl rfl (by decide +kernel) ⟨Nat.le_of_ble_eq_true rfl, Nat.le_of_ble_eq_true rfl⟩) (za_recv (q := (RX6, TX6, 11)) hK hG 0 0 ⟨by omega, rfl⟩ rfl rfl rfl) rfl hl rfl (Nat.le_of_ble_eq_true rfl) dX6_record_2 ⟨Nat.le_of_ble_eq_true rfl, Nat.le_of_ble_eq_true rfl⟩ (fun En ce q9 u_2 H locs hp hG hS g1 g2 g3 => ?_) (fun r_2 u_2 H locs hp hG hS => ?_)
  · obtain ⟨rfl, h1, rfl⟩ := hp
    exact vx_out (fun x h => (htb x h).elim) hlocks g1 g2 g3 (fun t ht hW => ⟨(_, _), (Or.inl ⟨rfl, by unfold zo_rec; rw [if_pos h1], rfl⟩), ⟨rfl, by show za_G E b _ t.heap; rw [ht]; exact hG⟩, hS.F ht⟩) hS.2.2 (by omega) (by omega)
  · obtain ⟨rfl, h1, rfl⟩ := hp
    refine lv_astore_n (lv' := [(2, .ref (ad 9 (zs_ix p0))), (0, .ref (ad 0 0)), (1, .int p0)]) hx hb dX6_record_5 rfl hl (by decide) rfl (fun ls hl => ?_)
    refine lv_aload_n hx hb dX6_record_6 rfl (lv_at hl 1 rfl) ?_
    refine zg_BR_recorderCount hx hb hts hinX6 hown hf219 hK hG (n := S.1 0 2 0) rfl dX6_record_7 ?_
    refine lv_istore_n (lv' := [(3, .int (nI (S.1 0 2 0))), (2, .ref (ad 9 (zs_ix p0))), (0, .ref (ad 0 0)), (1, .int p0)]) hx hb dX6_record_10 rfl hl (by decide) rfl (fun ls hl => ?_)
    refine lv_iload_n hx hb dX6_record_11 rfl (lv_at hl 0 rfl) ?_
    refine zb_if_lt (x := S.1 0 2 0) (tgt := 24) hx hb (by have := hBS 0 2 0; omega) dX6_record_12 (by decide) ?_
    refine lv_iload_n hx hb dX6_record_15 rfl (lv_at hl 0 rfl) ?_
    refine lv_aload_n hx hb dX6_record_16 rfl (lv_at hl 2 rfl) ?_
    refine zg_BR_recorders hx hb hts hinX6 hown hf23 hK hG dX6_record_17 ?_
    refine zl_RC hx hb hK hG dX6_record_20 ?_
    refine zb_icmp_lt (x := S.1 0 2 0) (y := 8) (tgt := 34) hx hb (by have := hBS 0 2 0; omega) (by omega) dX6_record_21 (by decide) (fun c_21 => ?_) (fun c_21 => ?_)
    · refine lv_aload_n hx hb dX6_record_34 rfl (lv_at hl 2 rfl) ?_
      refine zg_BR_recorders hx hb hts hinX6 hown hf23 hK hG dX6_record_35 ?_
      refine lv_iload_n hx hb dX6_record_38 rfl (lv_at hl 0 rfl) ?_
      refine zk_new (ci := 5) (fs := [.null, .null, .int 0]) (C := RX3) (T := TX3) (N := 3) hx hb hts hinX3 tyX3 tyX3_ok hown (hts (.classLink RX6 21 RX3) (by decide +kernel)) (hts (.instantiable RX3 3) (by decide +kernel)) (hts (.initialized RX3) (by decide +kernel)) hK rfl (fun j hj => by rcases (show j = 0 ∨ j = 1 ∨ j = 2 by omega) with rfl | rfl | rfl <;> rfl) hG hS (Nat.le_of_ble_eq_true rfl) (Nat.le_of_ble_eq_true rfl) dX6_record_39 (fun q_39 H hP9 hqz hqs hlt hG hS => ?_)
      refine lv_dup hx hb dX6_record_42 rfl ?_
      refine lv_aload_n hx hb dX6_record_43 rfl (lv_at hl 1 rfl) ?_
      refine zk_call (As := [.ref (ad 9 (zs_ix p0))]) (rest := [.ref q_39, .int (nI (S.1 0 2 0)), .ref (ad 3 0)]) (L := []) (L' := []) hK ⟨hZ.2.2.2.2.1, (fun C h => by cases h)⟩ (fun _ h => h) hb0 hqs hqz hG hlt hP9 hS hx hb hml hown hts (k_X3_init l (E := E) q_39 H.size (ad 9 (zs_ix p0))) (cwI 1 hts gX6_record_X3_init rfl rfl rfl (hts (.initialized RX3) (by decide +kernel)) (hts (.methodLink RX6 224 yX3_init) (by decide +kernel)) (hts (.instanceMethod yX3_init) (by decide +kernel)) rfl (by decide +kernel) ⟨Nat.le_of_ble_eq_true rfl, Nat.le_of_ble_eq_true rfl⟩) rfl hl rfl (Nat.le_of_ble_eq_true rfl) dX6_record_44 ⟨Nat.le_of_ble_eq_true rfl, Nat.le_of_ble_eq_true rfl⟩ (fun t9 H locs ht9 hB9 hG hS hA9 => ?_)
      obtain ⟨q_39_0, q_39_1, hP9, hD9⟩ := hB9
      rw [ht9] at hP9
      have hG := za_rec (n := S.1 0 2 0) (r := zs_ix p0) hG hJ.2.2.2.2.2.1 (by omega) hP9 hD9 hA9 (hI.1.2.2.2.2.2.2.2.2.2.2.2.2.2.2.2.2 _ (Nat.le_refl _) (by omega)).2 (hI.1.2.2.2.2.2.2.2.2.2.2.2.2.2.2.2.2 _ (Nat.le_refl _) (by omega)).1 (fun j => hI.rz (by rw [(hI.1.2.2.2.2.2.2.2.2.2.2.2.2.2.2.2.2 _ (Nat.le_refl _) (by omega)).1]; exact Nat.zero_le _)) (fun j x e => by have := hJ.k e; omega)
      have n11 : zk_ak ad (S.1 0 2 0) q_39 q_39_0 11 (S.1 0 2 0) = q_39 := by unfold zk_ak; rw [zk_ad2 _ (by omega), zk_ad1]
      have e00 : zk_ak ad (S.1 0 2 0) q_39 q_39_0 0 0 = ad 0 0 := rfl
      have e30 : zk_ak ad (S.1 0 2 0) q_39 q_39_0 3 0 = ad 3 0 := rfl
      have e90 : zk_ak ad (S.1 0 2 0) q_39 q_39_0 9 (zs_ix p0) = ad 9 (zs_ix p0) := rfl
      obtain ⟨ad2, had2⟩ : ∃ z, z = zk_ak ad (S.1 0 2 0) q_39 q_39_0 := ⟨_, rfl⟩
      rw [← had2] at hG n11 e00 e30 e90
      rw [← e00, ← e90] at hl
      refine W.eq (g2 := F0 m 47 ls [.ref (ad2 11 (S.1 0 2 0)), .int (nI (S.1 0 2 0)), .ref (ad2 3 0)]) (by rw [n11, e30]) ?_
      refine zst_RC hx hb hK hG hS (by omega) (show S.1 0 2 0 < (zk_xk X (S.1 0 2 0) q_39_1).1 5 2 0 by unfold zk_xk; rw [za_Ns]; omega) dX6_record_47 (fun H locs hG hS => ?_)
      refine lv_aload_n hx hb dX6_record_48 rfl (lv_at hl 2 rfl) ?_
      refine lv_iload_n hx hb dX6_record_49 rfl (lv_at hl 0 rfl) ?_
      refine zb_iconst (n := 1) hx hb dX6_record_50 (by decide) ?_
      refine zb_iadd hx hb dX6_record_51 ?_
      refine zp_BR_recorderCount hx hb hts hinX6 hown hf219 hS hK hG dX6_record_52 (fun H locs hG hS => ?_)
      refine lv_iload_n hx hb dX6_record_55 rfl (lv_at hl 0 rfl) ?_
      exact vx_ret (zm_iret hx hb hr hlocks hG hS (by omega) (by omega) ⟨by unfold zo_rec; rw [if_neg (fun h => h h1), if_neg (by omega)], rfl, ad2, _, rfl, zs_D_nk hD (by omega) h1, fun κ hκ => by rw [had2]; unfold zk_ak; rw [zk_ad2 _ (by omega), zk_ad2 _ (by omega)]⟩ dX6_record_56)
    · exact zt_throw (cls := "java/lang/IllegalStateException") (text := "there are no more recorders") (ik := 51) (is := 222) (ic := 55) hx hb hl0 hZ hG hS hml hl hown htb hlocks (by simp [za_exs]) (by simp [za_texts]) (by decide +kernel) hk51 hiISE (fun w h => hts w (by simp only [wsX6_record, List.mem_cons, List.mem_append, h, or_true, true_or])) zt_ng_ISE zt_gd_ISE dX6_record_24 dX6_record_27 dX6_record_28 dX6_record_30 dX6_record_33 (by decide) (by decide) (by first | (show _ + 1 ≤ _; omega) | decide) (by first | (show _ + 6 ≤ _; omega) | decide) (by omega) (by omega) (Or.inr ⟨rfl, by unfold zo_rec; rw [if_neg (fun h => h h1), if_pos (by omega)], rfl⟩)
