/-! ### the law's own steps -/
theorem zl_self (x : Int64) : lg_cmp x x = 0 := by simp [lg_cmp]
theorem zl_cv {x : UInt64} (h : FP.dIsNaN x = false) : Op.cmpValue (FP.dcmp x x) .l = 0 := by rw [zf_self h]; rfl
theorem zs_ce_le {S : za_S} (h : zs_I S) : zs_ce S ≤ 66 ∧ zs_sl S ≤ 60480 := by
  have ht := h.t
  have t8 : S.1 7 8 0 ≤ 12000 := by omega
  have tk : ∀ k, k < 8 → S.1 7 k 0 ≤ 2000 := fun k hk => by have := ht.2.2 k hk; omega
  have m : ∀ k, k < 8 → zl_ce k (S.1 7 k 0) ≤ 7 ∧ zl_sl k (S.1 7 k 0) ≤ 4016 := fun k hk => by
    have e : zl_lim k = 2000 := if_neg (by omega)
    obtain ⟨m1, m2⟩ := zl_mono (k := k) (tk k hk) (by rw [e]; exact Nat.le_refl _)
    rcases (show k = 0 ∨ k = 1 ∨ k = 2 ∨ k = 3 ∨ k = 4 ∨ k = 5 ∨ k = 6 ∨ k = 7 by omega) with rfl | rfl | rfl | rfl | rfl | rfl | rfl | rfl <;> exact ⟨Nat.le_trans m1 (by decide +kernel), Nat.le_trans m2 (by decide +kernel)⟩
  obtain ⟨m1, m2⟩ := zl_mono (k := 8) t8 (by decide)
  have m8 : zl_ce 8 (S.1 7 8 0) ≤ 10 ∧ zl_sl 8 (S.1 7 8 0) ≤ 28352 := ⟨Nat.le_trans m1 (by decide +kernel), Nat.le_trans m2 (by decide +kernel)⟩
  have a0 := m 0 (by omega)
  have a1 := m 1 (by omega)
  have a2 := m 2 (by omega)
  have a3 := m 3 (by omega)
  have a4 := m 4 (by omega)
  have a5 := m 5 (by omega)
  have a6 := m 6 (by omega)
  have a7 := m 7 (by omega)
  refine ⟨?_, ?_⟩
  · show 0 + zl_ce 0 (S.1 7 0 0) + zl_ce 1 (S.1 7 1 0) + zl_ce 2 (S.1 7 2 0) + zl_ce 3 (S.1 7 3 0) + zl_ce 4 (S.1 7 4 0) + zl_ce 5 (S.1 7 5 0) + zl_ce 6 (S.1 7 6 0) + zl_ce 7 (S.1 7 7 0) + zl_ce 8 (S.1 7 8 0) ≤ 66
    omega
  · show 0 + zl_sl 0 (S.1 7 0 0) + zl_sl 1 (S.1 7 1 0) + zl_sl 2 (S.1 7 2 0) + zl_sl 3 (S.1 7 3 0) + zl_sl 4 (S.1 7 4 0) + zl_sl 5 (S.1 7 5 0) + zl_sl 6 (S.1 7 6 0) + zl_sl 7 (S.1 7 7 0) + zl_sl 8 (S.1 7 8 0) ≤ 60480
    omega
theorem zl_7 {A B : za_S} (h : B.1 7 = A.1 7) : zs_ce A ≤ zs_ce B ∧ zs_sl A ≤ zs_sl B := by
  unfold zs_ce zs_sl
  rw [h]
  exact ⟨Nat.le_refl _, Nat.le_refl _⟩
theorem zl_7jo {S X : za_S} {a b : Nat} (h : zs_D S X) (hc : zo_jo S a b = 0) : (zs_st (zs_fw (zs_jn S a b 10) a b 8) 10).1 7 = S.1 7 := by
  obtain ⟨jQ, jc⟩ := zs_jn_f h.1.1 (zq_jo hc).2.1 (zq_jo hc).2.2 10
  obtain ⟨fQ, f1, -, -⟩ := zs_fw_f jQ a (b := b) (by rw [jc]; exact (zq_jo hc).2.1) 8
  rw [zs_st_1, f1 7 (by decide)]
  exact zs_jn_1 S a b (by decide) (by decide) 10
theorem zl_7pa {S X : za_S} {n : Nat} (h : zs_D S X) (hc : zo_pass S n = 0) : zs_ce S ≤ zs_ce (zs_pass S n) ∧ zs_sl S ≤ zs_sl (zs_pass S n) :=
  (zs_pass_f h.1 h.2.2.2.2.2 n (zq_pass hc).2.2).2.2.2.2
/-- the loop's head, with i ints read -/
def zl_at (p : Program) (l : Launch) (e : Env) (s : State) (m : MethodId) (below : List Frame) (meth : Method) (c : Code) (bq b : Nat) (E : za_E) (i : Nat) : Prop :=
  ∀ (ad : za_Ad) (S X Y : za_S) (ow : Int64) (dw : UInt64) (H : Heap) (locs : List Loc) (k n : Nat) (ls : Array Slot), za_G E b (ad, S, X, S, Y, ow, dw) H → va_S (za_A b) s.heap H locs → zs_D S X → zs_6 S → zs_B Y → k ≤ 100 + 2 * i + zs_ce S → n ≤ 29000 + 14 * i + zs_sl S → lv_has ls 9 [(0, .ref bq), (1, .ref (ad 0 0)), (2, .ref (ad 14 0)), (3, .ref (ad 33 0)), (4, .ref (ad 34 0)), (5, .int (nI i))] → W p l e room_1 s m #[Value.ref bq] below meth c H locs k n (lw_Z below #[Value.ref bq] s) (F0 m 28 ls [])
set_option maxRecDepth 100000 in
set_option maxHeartbeats 4000000 in
theorem lq_0 {p : Program} {l : Launch} {e : Env} {s : State} {m : MethodId} {below : List Frame} {meth : Method} {c : Code} {bq b L i : Nat} {xs : Nat → Int32} {E : za_E} (hl0 : l.stackTraces = false) (hL : L ≤ 1536) (C0 : lw_At p s m meth c bq L xs) (hK : za_K E s) (hZ : za_Z b s s.heap) (hAO : va_AO RX2 s) (hb0 : b ≤ s.heap.size) (hbA : ¬ za_A b bq) (hi : i + 3 ≤ L) (kk : zl_at p l e s m below meth c bq b E (i + 3))
    {ad : za_Ad} {S X Y : za_S} {ow : Int64} {dw : UInt64} {H : Heap} {locs : List Loc} {k n : Nat} {ls : Array Slot} (hG : za_G E b (ad, S, X, S, Y, ow, dw) H) (hS : va_S (za_A b) s.heap H locs) (hD : zs_D S X) (h6 : zs_6 S) (hY : zs_B Y) (hk : k ≤ 100 + 2 * i + zs_ce S) (hn : n ≤ 29000 + 14 * i + zs_sl S) (hl : lv_has ls 9 [(0, .ref bq), (1, .ref (ad 0 0)), (2, .ref (ad 14 0)), (3, .ref (ad 33 0)), (4, .ref (ad 34 0)), (5, .int (nI i))]) : W p l e room_1 s m #[Value.ref bq] below meth c H locs k n (lw_Z below #[Value.ref bq] s) (F0 m 208 ls []) := by
  obtain ⟨hx, hb, hr, hml, hown, hts0, hX, hbl, hlocks, hgv⟩ := C0
  have hts : ∀ w ∈ wsL_law, w.before #[Value.ref bq] s = true := fun w h => hts0 w (wsL_law_in w h)
  have hce := zs_ce_le hD.1
  refine lv_aload_n hx hb dL_law_208 rfl (lv_at hl 1 rfl) ?_
  refine lv_aload_n hx hb dL_law_209 rfl (lv_at hl 0 rfl) ?_
  refine lv_iload hx hb dL_law_210 (lv_at hl 5 rfl) ?_
  refine zb_iconst (n := 1) hx hb dL_law_212 (by decide) ?_
  refine zb_iadd hx hb dL_law_213 ?_
  refine va_sld hx hb hX hbl hbA hS (vp_in_nI (by omega) (by omega)) dL_law_214 ?_
  refine lv_aload_n hx hb dL_law_215 rfl (lv_at hl 3 rfl) ?_
  refine zc_LSi (As := [.ref (ad 0 0), .int (xs (nI (i + 1)).toNatClampNeg), .ref (ad 33 0)]) (rest := []) hK hZ hAO hb0 hG hS hx hb hml hown hts (c_L_addPerson l hl0 (xs (nI (i + 1)).toNatClampNeg) hD h6) (vx_cwSW 3 hts gL_law_L_addPerson rfl rfl rfl (by decide +kernel) ⟨Nat.le_of_ble_eq_true rfl, Nat.le_of_ble_eq_true rfl⟩) rfl hl rfl (Nat.le_of_ble_eq_true rfl) dL_law_216 ⟨by show _ ≤ 603072; omega, by show _ ≤ 7207018; omega⟩ (fun r_216 u_216 H locs hp hG hS => ?_)
  obtain ⟨ad2, S2, X2, ow2, rfl, rfl, hsm, hD2, h62, hal⟩ := hp
  have hCb : zo_ap S (zs_ix (xs (nI (i + 1)).toNatClampNeg)) < 2 ^ 31 := by
    unfold zo_ap
    repeat' split
    all_goals decide
  rw [← hsm 0 (by omega), ← hsm 14 (by omega), ← hsm 33 (by omega), ← hsm 34 (by omega)] at hl
  refine lv_istore (lv' := [(6, .int (nI (zo_ap S (zs_ix (xs (nI (i + 1)).toNatClampNeg))))), (0, .ref bq), (1, .ref (ad2 0 0)), (2, .ref (ad2 14 0)), (3, .ref (ad2 33 0)), (4, .ref (ad2 34 0)), (5, .int (nI i))]) hx hb dL_law_219 hl (by decide) rfl (fun ls hl => ?_)
  refine lv_aload_n hx hb dL_law_221 rfl (lv_at hl 3 rfl) ?_
  refine lv_aload_n hx hb dL_law_222 rfl (lv_at hl 1 rfl) ?_
  refine lv_iload hx hb dL_law_223 (lv_at hl 6 rfl) ?_
  refine zb_iconst (n := 1) hx hb dL_law_225 (by decide) ?_
  refine zb_iadd hx hb dL_law_226 ?_
  refine va_sld hx hb hX hbl hbA hS (vp_in_nI (by omega) (by omega)) dL_law_227 ?_
  refine zc_Vi (As := [.int (xs (nI (i + 1)).toNatClampNeg)]) (rest := []) hK hZ hb0 hG hS hx hb hml hown hts (c_X7_addPerson l (xs (nI (i + 1)).toNatClampNeg) (zw_D.M hD h6 hY)) (cwV 1 hts gL_law_X7_addPerson rfl rfl rfl (by decide +kernel) ⟨Nat.le_of_ble_eq_true rfl, Nat.le_of_ble_eq_true rfl⟩) (za_recv (q := (RX7, TX7, 25)) hK hG 14 0 ⟨by omega, rfl⟩ rfl rfl rfl) rfl hl rfl (Nat.le_of_ble_eq_true rfl) dL_law_228 ⟨by show _ ≤ 603072; omega, by show _ ≤ 7207018; omega⟩ (fun r_228 u_228 H locs hp hG hS => ?_)
  obtain ⟨T2, Y2, rfl, hy, hmo⟩ := hp
  rcases hal with ⟨hc0, h1, h2⟩ | ⟨hc1, h1⟩
  · obtain ⟨-, h3, h4⟩ : zo_ap S (zs_ix (xs (nI (i + 1)).toNatClampNeg)) = 0 ∧ T2 = zs_np S (zs_ix (xs (nI (i + 1)).toNatClampNeg)) ∧ r_228 = nI (S.1 0 0 0) := by
      rcases hmo with h | ⟨h, -⟩
      · exact h
      · exact absurd hc0 h
    have hce2 : zs_ce S ≤ zs_ce (zs_np S (zs_ix (xs (nI (i + 1)).toNatClampNeg))) ∧ zs_sl S ≤ zs_sl (zs_np S (zs_ix (xs (nI (i + 1)).toNatClampNeg))) := zl_7 rfl
    subst h1
    subst h3
    subst h2
    subst h4
    refine lv_istore (lv' := [(7, .int (nI (S.1 0 0 0))), (6, .int (nI (zo_ap S (zs_ix (xs (nI (i + 1)).toNatClampNeg))))), (0, .ref bq), (1, .ref (ad2 0 0)), (2, .ref (ad2 14 0)), (3, .ref (ad2 33 0)), (4, .ref (ad2 34 0)), (5, .int (nI i))]) hx hb dL_law_231 hl (by decide) rfl (fun ls hl => ?_)
    refine lv_aload_n hx hb dL_law_233 rfl (lv_at hl 4 rfl) ?_
    refine zc_Vi (As := []) (rest := []) hK hZ hb0 hG hS hx hb hml hown hts (c_X7_thrown l ) (cwV 0 hts gL_law_X7_thrown rfl rfl rfl (by decide +kernel) ⟨Nat.le_of_ble_eq_true rfl, Nat.le_of_ble_eq_true rfl⟩) (za_recv (q := (RX7, TX7, 25)) hK hG 14 0 ⟨by omega, rfl⟩ rfl rfl rfl) rfl hl rfl (Nat.le_of_ble_eq_true rfl) dL_law_234 ⟨by show _ ≤ 603072; omega, by show _ ≤ 7207018; omega⟩ (fun r_234 u_234 H locs hp hG hS => ?_)
    obtain ⟨rfl, rfl⟩ := hp
    refine lv_iload hx hb dL_law_237 (lv_at hl 1 rfl) ?_
    refine lv_icmp_eq (tgt := 244) hx hb dL_law_239 (by decide) (fun c_239 => ?_) (fun c_239 => ?_)
    · refine lv_iload hx hb dL_law_244 (lv_at hl 1 rfl) ?_
      refine zb_if_ne (x := zo_ap S (zs_ix (xs (nI (i + 1)).toNatClampNeg))) (tgt := 261) hx hb (by omega) dL_law_246 (by decide) (fun c_246 => ?_) (fun c_246 => ?_)
      · exact absurd hc0 c_246
      · refine lv_aload_n hx hb dL_law_249 rfl (lv_at hl 5 rfl) ?_
        refine zb_iconst (n := 0) hx hb dL_law_250 (by decide) ?_
        refine zld_OL hx hb hK hG (by omega) rfl dL_law_251 ?_
        refine lv_iload hx hb dL_law_252 (lv_at hl 0 rfl) ?_
        refine lv_i2l hx hb dL_law_254 rfl ?_
        refine W.lcmp hx hb dL_law_255 ?_
        refine lv_if_eq (tgt := 261) hx hb dL_law_256 (by decide) (fun c_256 => ?_) (fun c_256 => ?_)
        · refine zb_goto (tgt := 2168) hx hb dL_law_261 (by decide) ?_
          refine zb_iinc (n := 3) (k := 7) (lv' := [(5, .int (nI (i + 3))), (7, .int (nI (S.1 0 0 0))), (6, .int (nI (zo_ap S (zs_ix (xs (nI (i + 1)).toNatClampNeg))))), (0, .ref bq), (1, .ref (ad2 0 0)), (2, .ref (ad2 14 0)), (3, .ref (ad2 33 0)), (4, .ref (ad2 34 0))]) hx hb dL_law_2168 hl rfl (by decide) (by decide) rfl (fun ls hl => ?_)
          refine zb_goto (tgt := 28) hx hb dL_law_2171 (by decide) ?_
          have hcf := hce2
          exact kk _ (zs_np S (zs_ix (xs (nI (i + 1)).toNatClampNeg))) _ _ _ _ _ _ _ _ _ hG hS hD2 h62 hy.2 (by omega) (by omega) (lv_sub hl [3, 4, 5, 6, 7, 0] rfl)
        · exact absurd (zl_self _) c_256
    · exact absurd (by rw [hy.1]) c_239
  · have h3 : T2 = S := by
      rcases hmo with ⟨h, -⟩ | ⟨-, h⟩
      · exact absurd h hc1
      · exact h
    obtain rfl : S = S2 := h1.symm
    obtain rfl : S = T2 := h3.symm
    refine lv_istore (lv' := [(7, .int r_228), (6, .int (nI (zo_ap S (zs_ix (xs (nI (i + 1)).toNatClampNeg))))), (0, .ref bq), (1, .ref (ad2 0 0)), (2, .ref (ad2 14 0)), (3, .ref (ad2 33 0)), (4, .ref (ad2 34 0)), (5, .int (nI i))]) hx hb dL_law_231 hl (by decide) rfl (fun ls hl => ?_)
    refine lv_aload_n hx hb dL_law_233 rfl (lv_at hl 4 rfl) ?_
    refine zc_Vi (As := []) (rest := []) hK hZ hb0 hG hS hx hb hml hown hts (c_X7_thrown l ) (cwV 0 hts gL_law_X7_thrown rfl rfl rfl (by decide +kernel) ⟨Nat.le_of_ble_eq_true rfl, Nat.le_of_ble_eq_true rfl⟩) (za_recv (q := (RX7, TX7, 25)) hK hG 14 0 ⟨by omega, rfl⟩ rfl rfl rfl) rfl hl rfl (Nat.le_of_ble_eq_true rfl) dL_law_234 ⟨by show _ ≤ 603072; omega, by show _ ≤ 7207018; omega⟩ (fun r_234 u_234 H locs hp hG hS => ?_)
    obtain ⟨rfl, rfl⟩ := hp
    refine lv_iload hx hb dL_law_237 (lv_at hl 1 rfl) ?_
    refine lv_icmp_eq (tgt := 244) hx hb dL_law_239 (by decide) (fun c_239 => ?_) (fun c_239 => ?_)
    · refine lv_iload hx hb dL_law_244 (lv_at hl 1 rfl) ?_
      refine zb_if_ne (x := zo_ap S (zs_ix (xs (nI (i + 1)).toNatClampNeg))) (tgt := 261) hx hb (by omega) dL_law_246 (by decide) (fun c_246 => ?_) (fun c_246 => ?_)
      · refine zb_goto (tgt := 2168) hx hb dL_law_261 (by decide) ?_
        refine zb_iinc (n := 3) (k := 7) (lv' := [(5, .int (nI (i + 3))), (7, .int r_228), (6, .int (nI (zo_ap S (zs_ix (xs (nI (i + 1)).toNatClampNeg))))), (0, .ref bq), (1, .ref (ad2 0 0)), (2, .ref (ad2 14 0)), (3, .ref (ad2 33 0)), (4, .ref (ad2 34 0))]) hx hb dL_law_2168 hl rfl (by decide) (by decide) rfl (fun ls hl => ?_)
        refine zb_goto (tgt := 28) hx hb dL_law_2171 (by decide) ?_
        exact kk _ S _ _ _ _ _ _ _ _ _ hG hS hD2 h62 hy.2 (by omega) (by omega) (lv_sub hl [3, 4, 5, 6, 7, 0] rfl)
      · exact absurd c_246 hc1
    · exact absurd (by rw [hy.1]) c_239

set_option maxRecDepth 100000 in
set_option maxHeartbeats 4000000 in
theorem lq_1 {p : Program} {l : Launch} {e : Env} {s : State} {m : MethodId} {below : List Frame} {meth : Method} {c : Code} {bq b L i : Nat} {xs : Nat → Int32} {E : za_E} (hl0 : l.stackTraces = false) (hL : L ≤ 1536) (C0 : lw_At p s m meth c bq L xs) (hK : za_K E s) (hZ : za_Z b s s.heap) (hAO : va_AO RX2 s) (hb0 : b ≤ s.heap.size) (hbA : ¬ za_A b bq) (hi : i + 3 ≤ L) (kk : zl_at p l e s m below meth c bq b E (i + 3))
    {ad : za_Ad} {S X Y : za_S} {ow : Int64} {dw : UInt64} {H : Heap} {locs : List Loc} {k n : Nat} {ls : Array Slot} (hG : za_G E b (ad, S, X, S, Y, ow, dw) H) (hS : va_S (za_A b) s.heap H locs) (hD : zs_D S X) (h6 : zs_6 S) (hY : zs_B Y) (hk : k ≤ 100 + 2 * i + zs_ce S) (hn : n ≤ 29000 + 14 * i + zs_sl S) (hl : lv_has ls 9 [(0, .ref bq), (1, .ref (ad 0 0)), (2, .ref (ad 14 0)), (3, .ref (ad 33 0)), (4, .ref (ad 34 0)), (5, .int (nI i))]) : W p l e room_1 s m #[Value.ref bq] below meth c H locs k n (lw_Z below #[Value.ref bq] s) (F0 m 264 ls []) := by
  obtain ⟨hx, hb, hr, hml, hown, hts0, hX, hbl, hlocks, hgv⟩ := C0
  have hts : ∀ w ∈ wsL_law, w.before #[Value.ref bq] s = true := fun w h => hts0 w (wsL_law_in w h)
  have hce := zs_ce_le hD.1
  refine lv_aload_n hx hb dL_law_264 rfl (lv_at hl 1 rfl) ?_
  refine lv_aload_n hx hb dL_law_265 rfl (lv_at hl 0 rfl) ?_
  refine lv_iload hx hb dL_law_266 (lv_at hl 5 rfl) ?_
  refine zb_iconst (n := 1) hx hb dL_law_268 (by decide) ?_
  refine zb_iadd hx hb dL_law_269 ?_
  refine va_sld hx hb hX hbl hbA hS (vp_in_nI (by omega) (by omega)) dL_law_270 ?_
  refine lv_aload_n hx hb dL_law_271 rfl (lv_at hl 0 rfl) ?_
  refine lv_iload hx hb dL_law_272 (lv_at hl 5 rfl) ?_
  refine zb_iconst (n := 2) hx hb dL_law_274 (by decide) ?_
  refine zb_iadd hx hb dL_law_275 ?_
  refine va_sld hx hb hX hbl hbA hS (vp_in_nI (by omega) (by omega)) dL_law_276 ?_
  refine lv_aload_n hx hb dL_law_277 rfl (lv_at hl 3 rfl) ?_
  refine zc_LSi (As := [.ref (ad 0 0), .int (xs (nI (i + 1)).toNatClampNeg), .int (xs (nI (i + 2)).toNatClampNeg), .ref (ad 33 0)]) (rest := []) hK hZ hAO hb0 hG hS hx hb hml hown hts (c_L_setBudget l hl0 (xs (nI (i + 1)).toNatClampNeg) (xs (nI (i + 2)).toNatClampNeg) hD h6) (vx_cwSW 4 hts gL_law_L_setBudget rfl rfl rfl (by decide +kernel) ⟨Nat.le_of_ble_eq_true rfl, Nat.le_of_ble_eq_true rfl⟩) rfl hl rfl (Nat.le_of_ble_eq_true rfl) dL_law_278 ⟨by show _ ≤ 603072; omega, by show _ ≤ 7207018; omega⟩ (fun r_278 u_278 H locs hp hG hS => ?_)
  obtain ⟨ad2, S2, X2, ow2, rfl, rfl, hsm, hD2, h62, hal⟩ := hp
  have hCb : zo_set S (zs_ix (xs (nI (i + 1)).toNatClampNeg)) (zs_ix (xs (nI (i + 2)).toNatClampNeg)) 9999 < 2 ^ 31 := by
    unfold zo_set
    repeat' split
    all_goals decide
  rw [← hsm 0 (by omega), ← hsm 14 (by omega), ← hsm 33 (by omega), ← hsm 34 (by omega)] at hl
  refine lv_istore (lv' := [(6, .int (nI (zo_set S (zs_ix (xs (nI (i + 1)).toNatClampNeg)) (zs_ix (xs (nI (i + 2)).toNatClampNeg)) 9999))), (0, .ref bq), (1, .ref (ad2 0 0)), (2, .ref (ad2 14 0)), (3, .ref (ad2 33 0)), (4, .ref (ad2 34 0)), (5, .int (nI i))]) hx hb dL_law_281 hl (by decide) rfl (fun ls hl => ?_)
  refine lv_aload_n hx hb dL_law_283 rfl (lv_at hl 3 rfl) ?_
  refine lv_aload_n hx hb dL_law_284 rfl (lv_at hl 1 rfl) ?_
  refine lv_iload hx hb dL_law_285 (lv_at hl 6 rfl) ?_
  refine zb_iconst (n := 1) hx hb dL_law_287 (by decide) ?_
  refine zb_iadd hx hb dL_law_288 ?_
  refine va_sld hx hb hX hbl hbA hS (vp_in_nI (by omega) (by omega)) dL_law_289 ?_
  refine lv_aload_n hx hb dL_law_290 rfl (lv_at hl 1 rfl) ?_
  refine lv_iload hx hb dL_law_291 (lv_at hl 6 rfl) ?_
  refine zb_iconst (n := 2) hx hb dL_law_293 (by decide) ?_
  refine zb_iadd hx hb dL_law_294 ?_
  refine va_sld hx hb hX hbl hbA hS (vp_in_nI (by omega) (by omega)) dL_law_295 ?_
  refine zc_Vi (As := [.int (xs (nI (i + 1)).toNatClampNeg), .int (xs (nI (i + 2)).toNatClampNeg)]) (rest := []) hK hZ hb0 hG hS hx hb hml hown hts (c_X7_setBudget l (xs (nI (i + 1)).toNatClampNeg) (xs (nI (i + 2)).toNatClampNeg) (zw_D.M hD h6 hY)) (cwV 2 hts gL_law_X7_setBudget rfl rfl rfl (by decide +kernel) ⟨Nat.le_of_ble_eq_true rfl, Nat.le_of_ble_eq_true rfl⟩) (za_recv (q := (RX7, TX7, 25)) hK hG 14 0 ⟨by omega, rfl⟩ rfl rfl rfl) rfl hl rfl (Nat.le_of_ble_eq_true rfl) dL_law_296 ⟨by show _ ≤ 603072; omega, by show _ ≤ 7207018; omega⟩ (fun r_296 u_296 H locs hp hG hS => ?_)
  obtain ⟨T2, Y2, rfl, hy, hmo⟩ := hp
  rcases hal with ⟨hc0, h1, h2⟩ | ⟨hc1, h1⟩
  · obtain ⟨-, h3, h4⟩ : zo_set S (zs_ix (xs (nI (i + 1)).toNatClampNeg)) (zs_ix (xs (nI (i + 2)).toNatClampNeg)) 9999 = 0 ∧ T2 = za_N S 1 (zs_ix (xs (nI (i + 1)).toNatClampNeg)) 0 (zs_ix (xs (nI (i + 2)).toNatClampNeg)) ∧ r_296 = nI (S.1 1 (zs_ix (xs (nI (i + 1)).toNatClampNeg)) 0) := by
      rcases hmo with h | ⟨h, -⟩
      · exact h
      · exact absurd hc0 h
    have hce2 : zs_ce S ≤ zs_ce (za_N S 1 (zs_ix (xs (nI (i + 1)).toNatClampNeg)) 0 (zs_ix (xs (nI (i + 2)).toNatClampNeg))) ∧ zs_sl S ≤ zs_sl (za_N S 1 (zs_ix (xs (nI (i + 1)).toNatClampNeg)) 0 (zs_ix (xs (nI (i + 2)).toNatClampNeg))) := zl_7 rfl
    subst h1
    subst h3
    subst h2
    subst h4
    refine lv_istore (lv' := [(7, .int (nI (S.1 1 (zs_ix (xs (nI (i + 1)).toNatClampNeg)) 0))), (6, .int (nI (zo_set S (zs_ix (xs (nI (i + 1)).toNatClampNeg)) (zs_ix (xs (nI (i + 2)).toNatClampNeg)) 9999))), (0, .ref bq), (1, .ref (ad2 0 0)), (2, .ref (ad2 14 0)), (3, .ref (ad2 33 0)), (4, .ref (ad2 34 0)), (5, .int (nI i))]) hx hb dL_law_299 hl (by decide) rfl (fun ls hl => ?_)
    refine lv_aload_n hx hb dL_law_301 rfl (lv_at hl 4 rfl) ?_
    refine zc_Vi (As := []) (rest := []) hK hZ hb0 hG hS hx hb hml hown hts (c_X7_thrown l ) (cwV 0 hts gL_law_X7_thrown rfl rfl rfl (by decide +kernel) ⟨Nat.le_of_ble_eq_true rfl, Nat.le_of_ble_eq_true rfl⟩) (za_recv (q := (RX7, TX7, 25)) hK hG 14 0 ⟨by omega, rfl⟩ rfl rfl rfl) rfl hl rfl (Nat.le_of_ble_eq_true rfl) dL_law_302 ⟨by show _ ≤ 603072; omega, by show _ ≤ 7207018; omega⟩ (fun r_302 u_302 H locs hp hG hS => ?_)
    obtain ⟨rfl, rfl⟩ := hp
    refine lv_iload hx hb dL_law_305 (lv_at hl 1 rfl) ?_
    refine lv_icmp_eq (tgt := 312) hx hb dL_law_307 (by decide) (fun c_307 => ?_) (fun c_307 => ?_)
    · refine lv_iload hx hb dL_law_312 (lv_at hl 1 rfl) ?_
      refine zb_if_ne (x := zo_set S (zs_ix (xs (nI (i + 1)).toNatClampNeg)) (zs_ix (xs (nI (i + 2)).toNatClampNeg)) 9999) (tgt := 329) hx hb (by omega) dL_law_314 (by decide) (fun c_314 => ?_) (fun c_314 => ?_)
      · exact absurd hc0 c_314
      · refine lv_aload_n hx hb dL_law_317 rfl (lv_at hl 5 rfl) ?_
        refine zb_iconst (n := 0) hx hb dL_law_318 (by decide) ?_
        refine zld_OL hx hb hK hG (by omega) rfl dL_law_319 ?_
        refine lv_iload hx hb dL_law_320 (lv_at hl 0 rfl) ?_
        refine lv_i2l hx hb dL_law_322 rfl ?_
        refine W.lcmp hx hb dL_law_323 ?_
        refine lv_if_eq (tgt := 329) hx hb dL_law_324 (by decide) (fun c_324 => ?_) (fun c_324 => ?_)
        · refine zb_goto (tgt := 2168) hx hb dL_law_329 (by decide) ?_
          refine zb_iinc (n := 3) (k := 7) (lv' := [(5, .int (nI (i + 3))), (7, .int (nI (S.1 1 (zs_ix (xs (nI (i + 1)).toNatClampNeg)) 0))), (6, .int (nI (zo_set S (zs_ix (xs (nI (i + 1)).toNatClampNeg)) (zs_ix (xs (nI (i + 2)).toNatClampNeg)) 9999))), (0, .ref bq), (1, .ref (ad2 0 0)), (2, .ref (ad2 14 0)), (3, .ref (ad2 33 0)), (4, .ref (ad2 34 0))]) hx hb dL_law_2168 hl rfl (by decide) (by decide) rfl (fun ls hl => ?_)
          refine zb_goto (tgt := 28) hx hb dL_law_2171 (by decide) ?_
          have hcf := hce2
          exact kk _ (za_N S 1 (zs_ix (xs (nI (i + 1)).toNatClampNeg)) 0 (zs_ix (xs (nI (i + 2)).toNatClampNeg))) _ _ _ _ _ _ _ _ _ hG hS hD2 h62 hy.2 (by omega) (by omega) (lv_sub hl [3, 4, 5, 6, 7, 0] rfl)
        · exact absurd (zl_self _) c_324
    · exact absurd (by rw [hy.1]) c_307
  · have h3 : T2 = S := by
      rcases hmo with ⟨h, -⟩ | ⟨-, h⟩
      · exact absurd h hc1
      · exact h
    obtain rfl : S = S2 := h1.symm
    obtain rfl : S = T2 := h3.symm
    refine lv_istore (lv' := [(7, .int r_296), (6, .int (nI (zo_set S (zs_ix (xs (nI (i + 1)).toNatClampNeg)) (zs_ix (xs (nI (i + 2)).toNatClampNeg)) 9999))), (0, .ref bq), (1, .ref (ad2 0 0)), (2, .ref (ad2 14 0)), (3, .ref (ad2 33 0)), (4, .ref (ad2 34 0)), (5, .int (nI i))]) hx hb dL_law_299 hl (by decide) rfl (fun ls hl => ?_)
    refine lv_aload_n hx hb dL_law_301 rfl (lv_at hl 4 rfl) ?_
    refine zc_Vi (As := []) (rest := []) hK hZ hb0 hG hS hx hb hml hown hts (c_X7_thrown l ) (cwV 0 hts gL_law_X7_thrown rfl rfl rfl (by decide +kernel) ⟨Nat.le_of_ble_eq_true rfl, Nat.le_of_ble_eq_true rfl⟩) (za_recv (q := (RX7, TX7, 25)) hK hG 14 0 ⟨by omega, rfl⟩ rfl rfl rfl) rfl hl rfl (Nat.le_of_ble_eq_true rfl) dL_law_302 ⟨by show _ ≤ 603072; omega, by show _ ≤ 7207018; omega⟩ (fun r_302 u_302 H locs hp hG hS => ?_)
    obtain ⟨rfl, rfl⟩ := hp
    refine lv_iload hx hb dL_law_305 (lv_at hl 1 rfl) ?_
    refine lv_icmp_eq (tgt := 312) hx hb dL_law_307 (by decide) (fun c_307 => ?_) (fun c_307 => ?_)
    · refine lv_iload hx hb dL_law_312 (lv_at hl 1 rfl) ?_
      refine zb_if_ne (x := zo_set S (zs_ix (xs (nI (i + 1)).toNatClampNeg)) (zs_ix (xs (nI (i + 2)).toNatClampNeg)) 9999) (tgt := 329) hx hb (by omega) dL_law_314 (by decide) (fun c_314 => ?_) (fun c_314 => ?_)
      · refine zb_goto (tgt := 2168) hx hb dL_law_329 (by decide) ?_
        refine zb_iinc (n := 3) (k := 7) (lv' := [(5, .int (nI (i + 3))), (7, .int r_296), (6, .int (nI (zo_set S (zs_ix (xs (nI (i + 1)).toNatClampNeg)) (zs_ix (xs (nI (i + 2)).toNatClampNeg)) 9999))), (0, .ref bq), (1, .ref (ad2 0 0)), (2, .ref (ad2 14 0)), (3, .ref (ad2 33 0)), (4, .ref (ad2 34 0))]) hx hb dL_law_2168 hl rfl (by decide) (by decide) rfl (fun ls hl => ?_)
        refine zb_goto (tgt := 28) hx hb dL_law_2171 (by decide) ?_
        exact kk _ S _ _ _ _ _ _ _ _ _ hG hS hD2 h62 hy.2 (by omega) (by omega) (lv_sub hl [3, 4, 5, 6, 7, 0] rfl)
      · exact absurd c_314 hc1
    · exact absurd (by rw [hy.1]) c_307

set_option maxRecDepth 100000 in
set_option maxHeartbeats 4000000 in
theorem lq_2 {p : Program} {l : Launch} {e : Env} {s : State} {m : MethodId} {below : List Frame} {meth : Method} {c : Code} {bq b L i : Nat} {xs : Nat → Int32} {E : za_E} (hl0 : l.stackTraces = false) (hL : L ≤ 1536) (C0 : lw_At p s m meth c bq L xs) (hK : za_K E s) (hZ : za_Z b s s.heap) (hAO : va_AO RX2 s) (hb0 : b ≤ s.heap.size) (hbA : ¬ za_A b bq) (hi : i + 3 ≤ L) (kk : zl_at p l e s m below meth c bq b E (i + 3))
    {ad : za_Ad} {S X Y : za_S} {ow : Int64} {dw : UInt64} {H : Heap} {locs : List Loc} {k n : Nat} {ls : Array Slot} (hG : za_G E b (ad, S, X, S, Y, ow, dw) H) (hS : va_S (za_A b) s.heap H locs) (hD : zs_D S X) (h6 : zs_6 S) (hY : zs_B Y) (hk : k ≤ 100 + 2 * i + zs_ce S) (hn : n ≤ 29000 + 14 * i + zs_sl S) (hl : lv_has ls 9 [(0, .ref bq), (1, .ref (ad 0 0)), (2, .ref (ad 14 0)), (3, .ref (ad 33 0)), (4, .ref (ad 34 0)), (5, .int (nI i))]) : W p l e room_1 s m #[Value.ref bq] below meth c H locs k n (lw_Z below #[Value.ref bq] s) (F0 m 332 ls []) := by
  obtain ⟨hx, hb, hr, hml, hown, hts0, hX, hbl, hlocks, hgv⟩ := C0
  have hts : ∀ w ∈ wsL_law, w.before #[Value.ref bq] s = true := fun w h => hts0 w (wsL_law_in w h)
  have hce := zs_ce_le hD.1
  refine lv_aload_n hx hb dL_law_332 rfl (lv_at hl 1 rfl) ?_
  refine lv_aload_n hx hb dL_law_333 rfl (lv_at hl 0 rfl) ?_
  refine lv_iload hx hb dL_law_334 (lv_at hl 5 rfl) ?_
  refine zb_iconst (n := 1) hx hb dL_law_336 (by decide) ?_
  refine zb_iadd hx hb dL_law_337 ?_
  refine va_sld hx hb hX hbl hbA hS (vp_in_nI (by omega) (by omega)) dL_law_338 ?_
  refine lv_aload_n hx hb dL_law_339 rfl (lv_at hl 0 rfl) ?_
  refine lv_iload hx hb dL_law_340 (lv_at hl 5 rfl) ?_
  refine zb_iconst (n := 2) hx hb dL_law_342 (by decide) ?_
  refine zb_iadd hx hb dL_law_343 ?_
  refine va_sld hx hb hX hbl hbA hS (vp_in_nI (by omega) (by omega)) dL_law_344 ?_
  refine lv_aload_n hx hb dL_law_345 rfl (lv_at hl 3 rfl) ?_
  refine zc_LSi (As := [.ref (ad 0 0), .int (xs (nI (i + 1)).toNatClampNeg), .int (xs (nI (i + 2)).toNatClampNeg), .ref (ad 33 0)]) (rest := []) hK hZ hAO hb0 hG hS hx hb hml hown hts (c_L_setSends l hl0 (xs (nI (i + 1)).toNatClampNeg) (xs (nI (i + 2)).toNatClampNeg) hD h6) (vx_cwSW 4 hts gL_law_L_setSends rfl rfl rfl (by decide +kernel) ⟨Nat.le_of_ble_eq_true rfl, Nat.le_of_ble_eq_true rfl⟩) rfl hl rfl (Nat.le_of_ble_eq_true rfl) dL_law_346 ⟨by show _ ≤ 603072; omega, by show _ ≤ 7207018; omega⟩ (fun r_346 u_346 H locs hp hG hS => ?_)
  obtain ⟨ad2, S2, X2, ow2, rfl, rfl, hsm, hD2, h62, hal⟩ := hp
  have hCb : zo_set S (zs_ix (xs (nI (i + 1)).toNatClampNeg)) (zs_ix (xs (nI (i + 2)).toNatClampNeg)) 3 < 2 ^ 31 := by
    unfold zo_set
    repeat' split
    all_goals decide
  rw [← hsm 0 (by omega), ← hsm 14 (by omega), ← hsm 33 (by omega), ← hsm 34 (by omega)] at hl
  refine lv_istore (lv' := [(6, .int (nI (zo_set S (zs_ix (xs (nI (i + 1)).toNatClampNeg)) (zs_ix (xs (nI (i + 2)).toNatClampNeg)) 3))), (0, .ref bq), (1, .ref (ad2 0 0)), (2, .ref (ad2 14 0)), (3, .ref (ad2 33 0)), (4, .ref (ad2 34 0)), (5, .int (nI i))]) hx hb dL_law_349 hl (by decide) rfl (fun ls hl => ?_)
  refine lv_aload_n hx hb dL_law_351 rfl (lv_at hl 3 rfl) ?_
  refine lv_aload_n hx hb dL_law_352 rfl (lv_at hl 1 rfl) ?_
  refine lv_iload hx hb dL_law_353 (lv_at hl 6 rfl) ?_
  refine zb_iconst (n := 1) hx hb dL_law_355 (by decide) ?_
  refine zb_iadd hx hb dL_law_356 ?_
  refine va_sld hx hb hX hbl hbA hS (vp_in_nI (by omega) (by omega)) dL_law_357 ?_
  refine lv_aload_n hx hb dL_law_358 rfl (lv_at hl 1 rfl) ?_
  refine lv_iload hx hb dL_law_359 (lv_at hl 6 rfl) ?_
  refine zb_iconst (n := 2) hx hb dL_law_361 (by decide) ?_
  refine zb_iadd hx hb dL_law_362 ?_
  refine va_sld hx hb hX hbl hbA hS (vp_in_nI (by omega) (by omega)) dL_law_363 ?_
  refine zc_Vi (As := [.int (xs (nI (i + 1)).toNatClampNeg), .int (xs (nI (i + 2)).toNatClampNeg)]) (rest := []) hK hZ hb0 hG hS hx hb hml hown hts (c_X7_setSends l (xs (nI (i + 1)).toNatClampNeg) (xs (nI (i + 2)).toNatClampNeg) (zw_D.M hD h6 hY)) (cwV 2 hts gL_law_X7_setSends rfl rfl rfl (by decide +kernel) ⟨Nat.le_of_ble_eq_true rfl, Nat.le_of_ble_eq_true rfl⟩) (za_recv (q := (RX7, TX7, 25)) hK hG 14 0 ⟨by omega, rfl⟩ rfl rfl rfl) rfl hl rfl (Nat.le_of_ble_eq_true rfl) dL_law_364 ⟨by show _ ≤ 603072; omega, by show _ ≤ 7207018; omega⟩ (fun r_364 u_364 H locs hp hG hS => ?_)
  obtain ⟨T2, Y2, rfl, hy, hmo⟩ := hp
  rcases hal with ⟨hc0, h1, h2⟩ | ⟨hc1, h1⟩
  · obtain ⟨-, h3, h4⟩ : zo_set S (zs_ix (xs (nI (i + 1)).toNatClampNeg)) (zs_ix (xs (nI (i + 2)).toNatClampNeg)) 3 = 0 ∧ T2 = za_N S 2 (zs_ix (xs (nI (i + 1)).toNatClampNeg)) 0 (zs_ix (xs (nI (i + 2)).toNatClampNeg)) ∧ r_364 = nI (S.1 2 (zs_ix (xs (nI (i + 1)).toNatClampNeg)) 0) := by
      rcases hmo with h | ⟨h, -⟩
      · exact h
      · exact absurd hc0 h
    have hce2 : zs_ce S ≤ zs_ce (za_N S 2 (zs_ix (xs (nI (i + 1)).toNatClampNeg)) 0 (zs_ix (xs (nI (i + 2)).toNatClampNeg))) ∧ zs_sl S ≤ zs_sl (za_N S 2 (zs_ix (xs (nI (i + 1)).toNatClampNeg)) 0 (zs_ix (xs (nI (i + 2)).toNatClampNeg))) := zl_7 rfl
    subst h1
    subst h3
    subst h2
    subst h4
    refine lv_istore (lv' := [(7, .int (nI (S.1 2 (zs_ix (xs (nI (i + 1)).toNatClampNeg)) 0))), (6, .int (nI (zo_set S (zs_ix (xs (nI (i + 1)).toNatClampNeg)) (zs_ix (xs (nI (i + 2)).toNatClampNeg)) 3))), (0, .ref bq), (1, .ref (ad2 0 0)), (2, .ref (ad2 14 0)), (3, .ref (ad2 33 0)), (4, .ref (ad2 34 0)), (5, .int (nI i))]) hx hb dL_law_367 hl (by decide) rfl (fun ls hl => ?_)
    refine lv_aload_n hx hb dL_law_369 rfl (lv_at hl 4 rfl) ?_
    refine zc_Vi (As := []) (rest := []) hK hZ hb0 hG hS hx hb hml hown hts (c_X7_thrown l ) (cwV 0 hts gL_law_X7_thrown rfl rfl rfl (by decide +kernel) ⟨Nat.le_of_ble_eq_true rfl, Nat.le_of_ble_eq_true rfl⟩) (za_recv (q := (RX7, TX7, 25)) hK hG 14 0 ⟨by omega, rfl⟩ rfl rfl rfl) rfl hl rfl (Nat.le_of_ble_eq_true rfl) dL_law_370 ⟨by show _ ≤ 603072; omega, by show _ ≤ 7207018; omega⟩ (fun r_370 u_370 H locs hp hG hS => ?_)
    obtain ⟨rfl, rfl⟩ := hp
    refine lv_iload hx hb dL_law_373 (lv_at hl 1 rfl) ?_
    refine lv_icmp_eq (tgt := 380) hx hb dL_law_375 (by decide) (fun c_375 => ?_) (fun c_375 => ?_)
    · refine lv_iload hx hb dL_law_380 (lv_at hl 1 rfl) ?_
      refine zb_if_ne (x := zo_set S (zs_ix (xs (nI (i + 1)).toNatClampNeg)) (zs_ix (xs (nI (i + 2)).toNatClampNeg)) 3) (tgt := 397) hx hb (by omega) dL_law_382 (by decide) (fun c_382 => ?_) (fun c_382 => ?_)
      · exact absurd hc0 c_382
      · refine lv_aload_n hx hb dL_law_385 rfl (lv_at hl 5 rfl) ?_
        refine zb_iconst (n := 0) hx hb dL_law_386 (by decide) ?_
        refine zld_OL hx hb hK hG (by omega) rfl dL_law_387 ?_
        refine lv_iload hx hb dL_law_388 (lv_at hl 0 rfl) ?_
        refine lv_i2l hx hb dL_law_390 rfl ?_
        refine W.lcmp hx hb dL_law_391 ?_
        refine lv_if_eq (tgt := 397) hx hb dL_law_392 (by decide) (fun c_392 => ?_) (fun c_392 => ?_)
        · refine zb_goto (tgt := 2168) hx hb dL_law_397 (by decide) ?_
          refine zb_iinc (n := 3) (k := 7) (lv' := [(5, .int (nI (i + 3))), (7, .int (nI (S.1 2 (zs_ix (xs (nI (i + 1)).toNatClampNeg)) 0))), (6, .int (nI (zo_set S (zs_ix (xs (nI (i + 1)).toNatClampNeg)) (zs_ix (xs (nI (i + 2)).toNatClampNeg)) 3))), (0, .ref bq), (1, .ref (ad2 0 0)), (2, .ref (ad2 14 0)), (3, .ref (ad2 33 0)), (4, .ref (ad2 34 0))]) hx hb dL_law_2168 hl rfl (by decide) (by decide) rfl (fun ls hl => ?_)
          refine zb_goto (tgt := 28) hx hb dL_law_2171 (by decide) ?_
          have hcf := hce2
          exact kk _ (za_N S 2 (zs_ix (xs (nI (i + 1)).toNatClampNeg)) 0 (zs_ix (xs (nI (i + 2)).toNatClampNeg))) _ _ _ _ _ _ _ _ _ hG hS hD2 h62 hy.2 (by omega) (by omega) (lv_sub hl [3, 4, 5, 6, 7, 0] rfl)
        · exact absurd (zl_self _) c_392
    · exact absurd (by rw [hy.1]) c_375
  · have h3 : T2 = S := by
      rcases hmo with ⟨h, -⟩ | ⟨-, h⟩
      · exact absurd h hc1
      · exact h
    obtain rfl : S = S2 := h1.symm
    obtain rfl : S = T2 := h3.symm
    refine lv_istore (lv' := [(7, .int r_364), (6, .int (nI (zo_set S (zs_ix (xs (nI (i + 1)).toNatClampNeg)) (zs_ix (xs (nI (i + 2)).toNatClampNeg)) 3))), (0, .ref bq), (1, .ref (ad2 0 0)), (2, .ref (ad2 14 0)), (3, .ref (ad2 33 0)), (4, .ref (ad2 34 0)), (5, .int (nI i))]) hx hb dL_law_367 hl (by decide) rfl (fun ls hl => ?_)
    refine lv_aload_n hx hb dL_law_369 rfl (lv_at hl 4 rfl) ?_
    refine zc_Vi (As := []) (rest := []) hK hZ hb0 hG hS hx hb hml hown hts (c_X7_thrown l ) (cwV 0 hts gL_law_X7_thrown rfl rfl rfl (by decide +kernel) ⟨Nat.le_of_ble_eq_true rfl, Nat.le_of_ble_eq_true rfl⟩) (za_recv (q := (RX7, TX7, 25)) hK hG 14 0 ⟨by omega, rfl⟩ rfl rfl rfl) rfl hl rfl (Nat.le_of_ble_eq_true rfl) dL_law_370 ⟨by show _ ≤ 603072; omega, by show _ ≤ 7207018; omega⟩ (fun r_370 u_370 H locs hp hG hS => ?_)
    obtain ⟨rfl, rfl⟩ := hp
    refine lv_iload hx hb dL_law_373 (lv_at hl 1 rfl) ?_
    refine lv_icmp_eq (tgt := 380) hx hb dL_law_375 (by decide) (fun c_375 => ?_) (fun c_375 => ?_)
    · refine lv_iload hx hb dL_law_380 (lv_at hl 1 rfl) ?_
      refine zb_if_ne (x := zo_set S (zs_ix (xs (nI (i + 1)).toNatClampNeg)) (zs_ix (xs (nI (i + 2)).toNatClampNeg)) 3) (tgt := 397) hx hb (by omega) dL_law_382 (by decide) (fun c_382 => ?_) (fun c_382 => ?_)
      · refine zb_goto (tgt := 2168) hx hb dL_law_397 (by decide) ?_
        refine zb_iinc (n := 3) (k := 7) (lv' := [(5, .int (nI (i + 3))), (7, .int r_364), (6, .int (nI (zo_set S (zs_ix (xs (nI (i + 1)).toNatClampNeg)) (zs_ix (xs (nI (i + 2)).toNatClampNeg)) 3))), (0, .ref bq), (1, .ref (ad2 0 0)), (2, .ref (ad2 14 0)), (3, .ref (ad2 33 0)), (4, .ref (ad2 34 0))]) hx hb dL_law_2168 hl rfl (by decide) (by decide) rfl (fun ls hl => ?_)
        refine zb_goto (tgt := 28) hx hb dL_law_2171 (by decide) ?_
        exact kk _ S _ _ _ _ _ _ _ _ _ hG hS hD2 h62 hy.2 (by omega) (by omega) (lv_sub hl [3, 4, 5, 6, 7, 0] rfl)
      · exact absurd c_382 hc1
    · exact absurd (by rw [hy.1]) c_375

set_option maxRecDepth 100000 in
set_option maxHeartbeats 4000000 in
theorem lq_3 {p : Program} {l : Launch} {e : Env} {s : State} {m : MethodId} {below : List Frame} {meth : Method} {c : Code} {bq b L i : Nat} {xs : Nat → Int32} {E : za_E} (hl0 : l.stackTraces = false) (hL : L ≤ 1536) (C0 : lw_At p s m meth c bq L xs) (hK : za_K E s) (hZ : za_Z b s s.heap) (hAO : va_AO RX2 s) (hb0 : b ≤ s.heap.size) (hbA : ¬ za_A b bq) (hi : i + 3 ≤ L) (kk : zl_at p l e s m below meth c bq b E (i + 3))
    {ad : za_Ad} {S X Y : za_S} {ow : Int64} {dw : UInt64} {H : Heap} {locs : List Loc} {k n : Nat} {ls : Array Slot} (hG : za_G E b (ad, S, X, S, Y, ow, dw) H) (hS : va_S (za_A b) s.heap H locs) (hD : zs_D S X) (h6 : zs_6 S) (hY : zs_B Y) (hk : k ≤ 100 + 2 * i + zs_ce S) (hn : n ≤ 29000 + 14 * i + zs_sl S) (hl : lv_has ls 9 [(0, .ref bq), (1, .ref (ad 0 0)), (2, .ref (ad 14 0)), (3, .ref (ad 33 0)), (4, .ref (ad 34 0)), (5, .int (nI i))]) : W p l e room_1 s m #[Value.ref bq] below meth c H locs k n (lw_Z below #[Value.ref bq] s) (F0 m 400 ls []) := by
  obtain ⟨hx, hb, hr, hml, hown, hts0, hX, hbl, hlocks, hgv⟩ := C0
  have hts : ∀ w ∈ wsL_law, w.before #[Value.ref bq] s = true := fun w h => hts0 w (wsL_law_in w h)
  have hce := zs_ce_le hD.1
  refine lv_aload_n hx hb dL_law_400 rfl (lv_at hl 1 rfl) ?_
  refine lv_aload_n hx hb dL_law_401 rfl (lv_at hl 0 rfl) ?_
  refine lv_iload hx hb dL_law_402 (lv_at hl 5 rfl) ?_
  refine zb_iconst (n := 1) hx hb dL_law_404 (by decide) ?_
  refine zb_iadd hx hb dL_law_405 ?_
  refine va_sld hx hb hX hbl hbA hS (vp_in_nI (by omega) (by omega)) dL_law_406 ?_
  refine lv_aload_n hx hb dL_law_407 rfl (lv_at hl 0 rfl) ?_
  refine lv_iload hx hb dL_law_408 (lv_at hl 5 rfl) ?_
  refine zb_iconst (n := 2) hx hb dL_law_410 (by decide) ?_
  refine zb_iadd hx hb dL_law_411 ?_
  refine va_sld hx hb hX hbl hbA hS (vp_in_nI (by omega) (by omega)) dL_law_412 ?_
  refine lv_aload_n hx hb dL_law_413 rfl (lv_at hl 3 rfl) ?_
  refine zc_LSi (As := [.ref (ad 0 0), .int (xs (nI (i + 1)).toNatClampNeg), .int (xs (nI (i + 2)).toNatClampNeg), .ref (ad 33 0)]) (rest := []) hK hZ hAO hb0 hG hS hx hb hml hown hts (c_L_setLoud l hl0 (xs (nI (i + 1)).toNatClampNeg) (xs (nI (i + 2)).toNatClampNeg) hD h6) (vx_cwSW 4 hts gL_law_L_setLoud rfl rfl rfl (by decide +kernel) ⟨Nat.le_of_ble_eq_true rfl, Nat.le_of_ble_eq_true rfl⟩) rfl hl rfl (Nat.le_of_ble_eq_true rfl) dL_law_414 ⟨by show _ ≤ 603072; omega, by show _ ≤ 7207018; omega⟩ (fun r_414 u_414 H locs hp hG hS => ?_)
  obtain ⟨ad2, S2, X2, ow2, rfl, rfl, hsm, hD2, h62, hal⟩ := hp
  have hCb : zo_set S (zs_ix (xs (nI (i + 1)).toNatClampNeg)) (zs_ix (xs (nI (i + 2)).toNatClampNeg)) 99 < 2 ^ 31 := by
    unfold zo_set
    repeat' split
    all_goals decide
  rw [← hsm 0 (by omega), ← hsm 14 (by omega), ← hsm 33 (by omega), ← hsm 34 (by omega)] at hl
  refine lv_istore (lv' := [(6, .int (nI (zo_set S (zs_ix (xs (nI (i + 1)).toNatClampNeg)) (zs_ix (xs (nI (i + 2)).toNatClampNeg)) 99))), (0, .ref bq), (1, .ref (ad2 0 0)), (2, .ref (ad2 14 0)), (3, .ref (ad2 33 0)), (4, .ref (ad2 34 0)), (5, .int (nI i))]) hx hb dL_law_417 hl (by decide) rfl (fun ls hl => ?_)
  refine lv_aload_n hx hb dL_law_419 rfl (lv_at hl 3 rfl) ?_
  refine lv_aload_n hx hb dL_law_420 rfl (lv_at hl 1 rfl) ?_
  refine lv_iload hx hb dL_law_421 (lv_at hl 6 rfl) ?_
  refine zb_iconst (n := 1) hx hb dL_law_423 (by decide) ?_
  refine zb_iadd hx hb dL_law_424 ?_
  refine va_sld hx hb hX hbl hbA hS (vp_in_nI (by omega) (by omega)) dL_law_425 ?_
  refine lv_aload_n hx hb dL_law_426 rfl (lv_at hl 1 rfl) ?_
  refine lv_iload hx hb dL_law_427 (lv_at hl 6 rfl) ?_
  refine zb_iconst (n := 2) hx hb dL_law_429 (by decide) ?_
  refine zb_iadd hx hb dL_law_430 ?_
  refine va_sld hx hb hX hbl hbA hS (vp_in_nI (by omega) (by omega)) dL_law_431 ?_
  refine zc_Vi (As := [.int (xs (nI (i + 1)).toNatClampNeg), .int (xs (nI (i + 2)).toNatClampNeg)]) (rest := []) hK hZ hb0 hG hS hx hb hml hown hts (c_X7_setLoud l (xs (nI (i + 1)).toNatClampNeg) (xs (nI (i + 2)).toNatClampNeg) (zw_D.M hD h6 hY)) (cwV 2 hts gL_law_X7_setLoud rfl rfl rfl (by decide +kernel) ⟨Nat.le_of_ble_eq_true rfl, Nat.le_of_ble_eq_true rfl⟩) (za_recv (q := (RX7, TX7, 25)) hK hG 14 0 ⟨by omega, rfl⟩ rfl rfl rfl) rfl hl rfl (Nat.le_of_ble_eq_true rfl) dL_law_432 ⟨by show _ ≤ 603072; omega, by show _ ≤ 7207018; omega⟩ (fun r_432 u_432 H locs hp hG hS => ?_)
  obtain ⟨T2, Y2, rfl, hy, hmo⟩ := hp
  rcases hal with ⟨hc0, h1, h2⟩ | ⟨hc1, h1⟩
  · obtain ⟨-, h3, h4⟩ : zo_set S (zs_ix (xs (nI (i + 1)).toNatClampNeg)) (zs_ix (xs (nI (i + 2)).toNatClampNeg)) 99 = 0 ∧ T2 = za_N S 3 (zs_ix (xs (nI (i + 1)).toNatClampNeg)) 0 (zs_ix (xs (nI (i + 2)).toNatClampNeg)) ∧ r_432 = nI (S.1 3 (zs_ix (xs (nI (i + 1)).toNatClampNeg)) 0) := by
      rcases hmo with h | ⟨h, -⟩
      · exact h
      · exact absurd hc0 h
    have hce2 : zs_ce S ≤ zs_ce (za_N S 3 (zs_ix (xs (nI (i + 1)).toNatClampNeg)) 0 (zs_ix (xs (nI (i + 2)).toNatClampNeg))) ∧ zs_sl S ≤ zs_sl (za_N S 3 (zs_ix (xs (nI (i + 1)).toNatClampNeg)) 0 (zs_ix (xs (nI (i + 2)).toNatClampNeg))) := zl_7 rfl
    subst h1
    subst h3
    subst h2
    subst h4
    refine lv_istore (lv' := [(7, .int (nI (S.1 3 (zs_ix (xs (nI (i + 1)).toNatClampNeg)) 0))), (6, .int (nI (zo_set S (zs_ix (xs (nI (i + 1)).toNatClampNeg)) (zs_ix (xs (nI (i + 2)).toNatClampNeg)) 99))), (0, .ref bq), (1, .ref (ad2 0 0)), (2, .ref (ad2 14 0)), (3, .ref (ad2 33 0)), (4, .ref (ad2 34 0)), (5, .int (nI i))]) hx hb dL_law_435 hl (by decide) rfl (fun ls hl => ?_)
    refine lv_aload_n hx hb dL_law_437 rfl (lv_at hl 4 rfl) ?_
    refine zc_Vi (As := []) (rest := []) hK hZ hb0 hG hS hx hb hml hown hts (c_X7_thrown l ) (cwV 0 hts gL_law_X7_thrown rfl rfl rfl (by decide +kernel) ⟨Nat.le_of_ble_eq_true rfl, Nat.le_of_ble_eq_true rfl⟩) (za_recv (q := (RX7, TX7, 25)) hK hG 14 0 ⟨by omega, rfl⟩ rfl rfl rfl) rfl hl rfl (Nat.le_of_ble_eq_true rfl) dL_law_438 ⟨by show _ ≤ 603072; omega, by show _ ≤ 7207018; omega⟩ (fun r_438 u_438 H locs hp hG hS => ?_)
    obtain ⟨rfl, rfl⟩ := hp
    refine lv_iload hx hb dL_law_441 (lv_at hl 1 rfl) ?_
    refine lv_icmp_eq (tgt := 448) hx hb dL_law_443 (by decide) (fun c_443 => ?_) (fun c_443 => ?_)
    · refine lv_iload hx hb dL_law_448 (lv_at hl 1 rfl) ?_
      refine zb_if_ne (x := zo_set S (zs_ix (xs (nI (i + 1)).toNatClampNeg)) (zs_ix (xs (nI (i + 2)).toNatClampNeg)) 99) (tgt := 465) hx hb (by omega) dL_law_450 (by decide) (fun c_450 => ?_) (fun c_450 => ?_)
      · exact absurd hc0 c_450
      · refine lv_aload_n hx hb dL_law_453 rfl (lv_at hl 5 rfl) ?_
        refine zb_iconst (n := 0) hx hb dL_law_454 (by decide) ?_
        refine zld_OL hx hb hK hG (by omega) rfl dL_law_455 ?_
        refine lv_iload hx hb dL_law_456 (lv_at hl 0 rfl) ?_
        refine lv_i2l hx hb dL_law_458 rfl ?_
        refine W.lcmp hx hb dL_law_459 ?_
        refine lv_if_eq (tgt := 465) hx hb dL_law_460 (by decide) (fun c_460 => ?_) (fun c_460 => ?_)
        · refine zb_goto (tgt := 2168) hx hb dL_law_465 (by decide) ?_
          refine zb_iinc (n := 3) (k := 7) (lv' := [(5, .int (nI (i + 3))), (7, .int (nI (S.1 3 (zs_ix (xs (nI (i + 1)).toNatClampNeg)) 0))), (6, .int (nI (zo_set S (zs_ix (xs (nI (i + 1)).toNatClampNeg)) (zs_ix (xs (nI (i + 2)).toNatClampNeg)) 99))), (0, .ref bq), (1, .ref (ad2 0 0)), (2, .ref (ad2 14 0)), (3, .ref (ad2 33 0)), (4, .ref (ad2 34 0))]) hx hb dL_law_2168 hl rfl (by decide) (by decide) rfl (fun ls hl => ?_)
          refine zb_goto (tgt := 28) hx hb dL_law_2171 (by decide) ?_
          have hcf := hce2
          exact kk _ (za_N S 3 (zs_ix (xs (nI (i + 1)).toNatClampNeg)) 0 (zs_ix (xs (nI (i + 2)).toNatClampNeg))) _ _ _ _ _ _ _ _ _ hG hS hD2 h62 hy.2 (by omega) (by omega) (lv_sub hl [3, 4, 5, 6, 7, 0] rfl)
        · exact absurd (zl_self _) c_460
    · exact absurd (by rw [hy.1]) c_443
  · have h3 : T2 = S := by
      rcases hmo with ⟨h, -⟩ | ⟨-, h⟩
      · exact absurd h hc1
      · exact h
    obtain rfl : S = S2 := h1.symm
    obtain rfl : S = T2 := h3.symm
    refine lv_istore (lv' := [(7, .int r_432), (6, .int (nI (zo_set S (zs_ix (xs (nI (i + 1)).toNatClampNeg)) (zs_ix (xs (nI (i + 2)).toNatClampNeg)) 99))), (0, .ref bq), (1, .ref (ad2 0 0)), (2, .ref (ad2 14 0)), (3, .ref (ad2 33 0)), (4, .ref (ad2 34 0)), (5, .int (nI i))]) hx hb dL_law_435 hl (by decide) rfl (fun ls hl => ?_)
    refine lv_aload_n hx hb dL_law_437 rfl (lv_at hl 4 rfl) ?_
    refine zc_Vi (As := []) (rest := []) hK hZ hb0 hG hS hx hb hml hown hts (c_X7_thrown l ) (cwV 0 hts gL_law_X7_thrown rfl rfl rfl (by decide +kernel) ⟨Nat.le_of_ble_eq_true rfl, Nat.le_of_ble_eq_true rfl⟩) (za_recv (q := (RX7, TX7, 25)) hK hG 14 0 ⟨by omega, rfl⟩ rfl rfl rfl) rfl hl rfl (Nat.le_of_ble_eq_true rfl) dL_law_438 ⟨by show _ ≤ 603072; omega, by show _ ≤ 7207018; omega⟩ (fun r_438 u_438 H locs hp hG hS => ?_)
    obtain ⟨rfl, rfl⟩ := hp
    refine lv_iload hx hb dL_law_441 (lv_at hl 1 rfl) ?_
    refine lv_icmp_eq (tgt := 448) hx hb dL_law_443 (by decide) (fun c_443 => ?_) (fun c_443 => ?_)
    · refine lv_iload hx hb dL_law_448 (lv_at hl 1 rfl) ?_
      refine zb_if_ne (x := zo_set S (zs_ix (xs (nI (i + 1)).toNatClampNeg)) (zs_ix (xs (nI (i + 2)).toNatClampNeg)) 99) (tgt := 465) hx hb (by omega) dL_law_450 (by decide) (fun c_450 => ?_) (fun c_450 => ?_)
      · refine zb_goto (tgt := 2168) hx hb dL_law_465 (by decide) ?_
        refine zb_iinc (n := 3) (k := 7) (lv' := [(5, .int (nI (i + 3))), (7, .int r_432), (6, .int (nI (zo_set S (zs_ix (xs (nI (i + 1)).toNatClampNeg)) (zs_ix (xs (nI (i + 2)).toNatClampNeg)) 99))), (0, .ref bq), (1, .ref (ad2 0 0)), (2, .ref (ad2 14 0)), (3, .ref (ad2 33 0)), (4, .ref (ad2 34 0))]) hx hb dL_law_2168 hl rfl (by decide) (by decide) rfl (fun ls hl => ?_)
        refine zb_goto (tgt := 28) hx hb dL_law_2171 (by decide) ?_
        exact kk _ S _ _ _ _ _ _ _ _ _ hG hS hD2 h62 hy.2 (by omega) (by omega) (lv_sub hl [3, 4, 5, 6, 7, 0] rfl)
      · exact absurd c_450 hc1
    · exact absurd (by rw [hy.1]) c_443

set_option maxRecDepth 100000 in
set_option maxHeartbeats 4000000 in
theorem lq_4 {p : Program} {l : Launch} {e : Env} {s : State} {m : MethodId} {below : List Frame} {meth : Method} {c : Code} {bq b L i : Nat} {xs : Nat → Int32} {E : za_E} (hl0 : l.stackTraces = false) (hL : L ≤ 1536) (C0 : lw_At p s m meth c bq L xs) (hK : za_K E s) (hZ : za_Z b s s.heap) (hAO : va_AO RX2 s) (hb0 : b ≤ s.heap.size) (hbA : ¬ za_A b bq) (hi : i + 3 ≤ L) (kk : zl_at p l e s m below meth c bq b E (i + 3))
    {ad : za_Ad} {S X Y : za_S} {ow : Int64} {dw : UInt64} {H : Heap} {locs : List Loc} {k n : Nat} {ls : Array Slot} (hG : za_G E b (ad, S, X, S, Y, ow, dw) H) (hS : va_S (za_A b) s.heap H locs) (hD : zs_D S X) (h6 : zs_6 S) (hY : zs_B Y) (hk : k ≤ 100 + 2 * i + zs_ce S) (hn : n ≤ 29000 + 14 * i + zs_sl S) (hl : lv_has ls 9 [(0, .ref bq), (1, .ref (ad 0 0)), (2, .ref (ad 14 0)), (3, .ref (ad 33 0)), (4, .ref (ad 34 0)), (5, .int (nI i))]) : W p l e room_1 s m #[Value.ref bq] below meth c H locs k n (lw_Z below #[Value.ref bq] s) (F0 m 468 ls []) := by
  obtain ⟨hx, hb, hr, hml, hown, hts0, hX, hbl, hlocks, hgv⟩ := C0
  have hts : ∀ w ∈ wsL_law, w.before #[Value.ref bq] s = true := fun w h => hts0 w (wsL_law_in w h)
  have hce := zs_ce_le hD.1
  refine lv_aload_n hx hb dL_law_468 rfl (lv_at hl 1 rfl) ?_
  refine lv_aload_n hx hb dL_law_469 rfl (lv_at hl 3 rfl) ?_
  refine zc_LSi (As := [.ref (ad 0 0), .ref (ad 33 0)]) (rest := []) hK hZ hAO hb0 hG hS hx hb hml hown hts (c_L_addRoom l hl0 hD h6) (vx_cwSW 2 hts gL_law_L_addRoom rfl rfl rfl (by decide +kernel) ⟨Nat.le_of_ble_eq_true rfl, Nat.le_of_ble_eq_true rfl⟩) rfl hl rfl (Nat.le_of_ble_eq_true rfl) dL_law_470 ⟨by show _ ≤ 603072; omega, by show _ ≤ 7207018; omega⟩ (fun r_470 u_470 H locs hp hG hS => ?_)
  obtain ⟨ad2, S2, X2, ow2, rfl, rfl, hsm, hD2, h62, hal⟩ := hp
  have hCb : zo_ar S < 2 ^ 31 := by
    unfold zo_ar
    repeat' split
    all_goals decide
  rw [← hsm 0 (by omega), ← hsm 14 (by omega), ← hsm 33 (by omega), ← hsm 34 (by omega)] at hl
  refine lv_istore (lv' := [(6, .int (nI (zo_ar S))), (0, .ref bq), (1, .ref (ad2 0 0)), (2, .ref (ad2 14 0)), (3, .ref (ad2 33 0)), (4, .ref (ad2 34 0)), (5, .int (nI i))]) hx hb dL_law_473 hl (by decide) rfl (fun ls hl => ?_)
  refine lv_aload_n hx hb dL_law_475 rfl (lv_at hl 3 rfl) ?_
  refine zc_Vi (As := []) (rest := []) hK hZ hb0 hG hS hx hb hml hown hts (c_X7_addRoom l (zw_D.M hD h6 hY)) (cwV 0 hts gL_law_X7_addRoom rfl rfl rfl (by decide +kernel) ⟨Nat.le_of_ble_eq_true rfl, Nat.le_of_ble_eq_true rfl⟩) (za_recv (q := (RX7, TX7, 25)) hK hG 14 0 ⟨by omega, rfl⟩ rfl rfl rfl) rfl hl rfl (Nat.le_of_ble_eq_true rfl) dL_law_476 ⟨by show _ ≤ 603072; omega, by show _ ≤ 7207018; omega⟩ (fun r_476 u_476 H locs hp hG hS => ?_)
  obtain ⟨T2, Y2, rfl, hy, hmo⟩ := hp
  rcases hal with ⟨hc0, h1, h2⟩ | ⟨hc1, h1⟩
  · obtain ⟨-, h3, h4⟩ : zo_ar S = 0 ∧ T2 = zs_nr S ∧ r_476 = nI (S.1 0 1 0) := by
      rcases hmo with h | ⟨h, -⟩
      · exact h
      · exact absurd hc0 h
    have hce2 : zs_ce S ≤ zs_ce (zs_nr S) ∧ zs_sl S ≤ zs_sl (zs_nr S) := zl_7 rfl
    subst h1
    subst h3
    subst h2
    subst h4
    refine lv_istore (lv' := [(7, .int (nI (S.1 0 1 0))), (6, .int (nI (zo_ar S))), (0, .ref bq), (1, .ref (ad2 0 0)), (2, .ref (ad2 14 0)), (3, .ref (ad2 33 0)), (4, .ref (ad2 34 0)), (5, .int (nI i))]) hx hb dL_law_479 hl (by decide) rfl (fun ls hl => ?_)
    refine lv_aload_n hx hb dL_law_481 rfl (lv_at hl 4 rfl) ?_
    refine zc_Vi (As := []) (rest := []) hK hZ hb0 hG hS hx hb hml hown hts (c_X7_thrown l ) (cwV 0 hts gL_law_X7_thrown rfl rfl rfl (by decide +kernel) ⟨Nat.le_of_ble_eq_true rfl, Nat.le_of_ble_eq_true rfl⟩) (za_recv (q := (RX7, TX7, 25)) hK hG 14 0 ⟨by omega, rfl⟩ rfl rfl rfl) rfl hl rfl (Nat.le_of_ble_eq_true rfl) dL_law_482 ⟨by show _ ≤ 603072; omega, by show _ ≤ 7207018; omega⟩ (fun r_482 u_482 H locs hp hG hS => ?_)
    obtain ⟨rfl, rfl⟩ := hp
    refine lv_iload hx hb dL_law_485 (lv_at hl 1 rfl) ?_
    refine lv_icmp_eq (tgt := 492) hx hb dL_law_487 (by decide) (fun c_487 => ?_) (fun c_487 => ?_)
    · refine lv_iload hx hb dL_law_492 (lv_at hl 1 rfl) ?_
      refine zb_if_ne (x := zo_ar S) (tgt := 509) hx hb (by omega) dL_law_494 (by decide) (fun c_494 => ?_) (fun c_494 => ?_)
      · exact absurd hc0 c_494
      · refine lv_aload_n hx hb dL_law_497 rfl (lv_at hl 5 rfl) ?_
        refine zb_iconst (n := 0) hx hb dL_law_498 (by decide) ?_
        refine zld_OL hx hb hK hG (by omega) rfl dL_law_499 ?_
        refine lv_iload hx hb dL_law_500 (lv_at hl 0 rfl) ?_
        refine lv_i2l hx hb dL_law_502 rfl ?_
        refine W.lcmp hx hb dL_law_503 ?_
        refine lv_if_eq (tgt := 509) hx hb dL_law_504 (by decide) (fun c_504 => ?_) (fun c_504 => ?_)
        · refine zb_goto (tgt := 2168) hx hb dL_law_509 (by decide) ?_
          refine zb_iinc (n := 3) (k := 7) (lv' := [(5, .int (nI (i + 3))), (7, .int (nI (S.1 0 1 0))), (6, .int (nI (zo_ar S))), (0, .ref bq), (1, .ref (ad2 0 0)), (2, .ref (ad2 14 0)), (3, .ref (ad2 33 0)), (4, .ref (ad2 34 0))]) hx hb dL_law_2168 hl rfl (by decide) (by decide) rfl (fun ls hl => ?_)
          refine zb_goto (tgt := 28) hx hb dL_law_2171 (by decide) ?_
          have hcf := hce2
          exact kk _ (zs_nr S) _ _ _ _ _ _ _ _ _ hG hS hD2 h62 hy.2 (by omega) (by omega) (lv_sub hl [3, 4, 5, 6, 7, 0] rfl)
        · exact absurd (zl_self _) c_504
    · exact absurd (by rw [hy.1]) c_487
  · have h3 : T2 = S := by
      rcases hmo with ⟨h, -⟩ | ⟨-, h⟩
      · exact absurd h hc1
      · exact h
    obtain rfl : S = S2 := h1.symm
    obtain rfl : S = T2 := h3.symm
    refine lv_istore (lv' := [(7, .int r_476), (6, .int (nI (zo_ar S))), (0, .ref bq), (1, .ref (ad2 0 0)), (2, .ref (ad2 14 0)), (3, .ref (ad2 33 0)), (4, .ref (ad2 34 0)), (5, .int (nI i))]) hx hb dL_law_479 hl (by decide) rfl (fun ls hl => ?_)
    refine lv_aload_n hx hb dL_law_481 rfl (lv_at hl 4 rfl) ?_
    refine zc_Vi (As := []) (rest := []) hK hZ hb0 hG hS hx hb hml hown hts (c_X7_thrown l ) (cwV 0 hts gL_law_X7_thrown rfl rfl rfl (by decide +kernel) ⟨Nat.le_of_ble_eq_true rfl, Nat.le_of_ble_eq_true rfl⟩) (za_recv (q := (RX7, TX7, 25)) hK hG 14 0 ⟨by omega, rfl⟩ rfl rfl rfl) rfl hl rfl (Nat.le_of_ble_eq_true rfl) dL_law_482 ⟨by show _ ≤ 603072; omega, by show _ ≤ 7207018; omega⟩ (fun r_482 u_482 H locs hp hG hS => ?_)
    obtain ⟨rfl, rfl⟩ := hp
    refine lv_iload hx hb dL_law_485 (lv_at hl 1 rfl) ?_
    refine lv_icmp_eq (tgt := 492) hx hb dL_law_487 (by decide) (fun c_487 => ?_) (fun c_487 => ?_)
    · refine lv_iload hx hb dL_law_492 (lv_at hl 1 rfl) ?_
      refine zb_if_ne (x := zo_ar S) (tgt := 509) hx hb (by omega) dL_law_494 (by decide) (fun c_494 => ?_) (fun c_494 => ?_)
      · refine zb_goto (tgt := 2168) hx hb dL_law_509 (by decide) ?_
        refine zb_iinc (n := 3) (k := 7) (lv' := [(5, .int (nI (i + 3))), (7, .int r_476), (6, .int (nI (zo_ar S))), (0, .ref bq), (1, .ref (ad2 0 0)), (2, .ref (ad2 14 0)), (3, .ref (ad2 33 0)), (4, .ref (ad2 34 0))]) hx hb dL_law_2168 hl rfl (by decide) (by decide) rfl (fun ls hl => ?_)
        refine zb_goto (tgt := 28) hx hb dL_law_2171 (by decide) ?_
        exact kk _ S _ _ _ _ _ _ _ _ _ hG hS hD2 h62 hy.2 (by omega) (by omega) (lv_sub hl [3, 4, 5, 6, 7, 0] rfl)
      · exact absurd c_494 hc1
    · exact absurd (by rw [hy.1]) c_487

set_option maxRecDepth 100000 in
set_option maxHeartbeats 4000000 in
theorem lq_5 {p : Program} {l : Launch} {e : Env} {s : State} {m : MethodId} {below : List Frame} {meth : Method} {c : Code} {bq b L i : Nat} {xs : Nat → Int32} {E : za_E} (hl0 : l.stackTraces = false) (hL : L ≤ 1536) (C0 : lw_At p s m meth c bq L xs) (hK : za_K E s) (hZ : za_Z b s s.heap) (hAO : va_AO RX2 s) (hb0 : b ≤ s.heap.size) (hbA : ¬ za_A b bq) (hi : i + 3 ≤ L) (kk : zl_at p l e s m below meth c bq b E (i + 3))
    {ad : za_Ad} {S X Y : za_S} {ow : Int64} {dw : UInt64} {H : Heap} {locs : List Loc} {k n : Nat} {ls : Array Slot} (hG : za_G E b (ad, S, X, S, Y, ow, dw) H) (hS : va_S (za_A b) s.heap H locs) (hD : zs_D S X) (h6 : zs_6 S) (hY : zs_B Y) (hk : k ≤ 100 + 2 * i + zs_ce S) (hn : n ≤ 29000 + 14 * i + zs_sl S) (hl : lv_has ls 9 [(0, .ref bq), (1, .ref (ad 0 0)), (2, .ref (ad 14 0)), (3, .ref (ad 33 0)), (4, .ref (ad 34 0)), (5, .int (nI i))]) : W p l e room_1 s m #[Value.ref bq] below meth c H locs k n (lw_Z below #[Value.ref bq] s) (F0 m 512 ls []) := by
  obtain ⟨hx, hb, hr, hml, hown, hts0, hX, hbl, hlocks, hgv⟩ := C0
  have hts : ∀ w ∈ wsL_law, w.before #[Value.ref bq] s = true := fun w h => hts0 w (wsL_law_in w h)
  have hce := zs_ce_le hD.1
  refine lv_aload_n hx hb dL_law_512 rfl (lv_at hl 1 rfl) ?_
  refine lv_aload_n hx hb dL_law_513 rfl (lv_at hl 0 rfl) ?_
  refine lv_iload hx hb dL_law_514 (lv_at hl 5 rfl) ?_
  refine zb_iconst (n := 1) hx hb dL_law_516 (by decide) ?_
  refine zb_iadd hx hb dL_law_517 ?_
  refine va_sld hx hb hX hbl hbA hS (vp_in_nI (by omega) (by omega)) dL_law_518 ?_
  refine lv_aload_n hx hb dL_law_519 rfl (lv_at hl 0 rfl) ?_
  refine lv_iload hx hb dL_law_520 (lv_at hl 5 rfl) ?_
  refine zb_iconst (n := 2) hx hb dL_law_522 (by decide) ?_
  refine zb_iadd hx hb dL_law_523 ?_
  refine va_sld hx hb hX hbl hbA hS (vp_in_nI (by omega) (by omega)) dL_law_524 ?_
  refine lv_aload_n hx hb dL_law_525 rfl (lv_at hl 3 rfl) ?_
  refine zc_LSi (As := [.ref (ad 0 0), .int (xs (nI (i + 1)).toNatClampNeg), .int (xs (nI (i + 2)).toNatClampNeg), .ref (ad 33 0)]) (rest := []) hK hZ hAO hb0 hG hS hx hb hml hown hts (c_L_enter l hl0 (xs (nI (i + 1)).toNatClampNeg) (xs (nI (i + 2)).toNatClampNeg) hD h6) (vx_cwSW 4 hts gL_law_L_enter rfl rfl rfl (by decide +kernel) ⟨Nat.le_of_ble_eq_true rfl, Nat.le_of_ble_eq_true rfl⟩) rfl hl rfl (Nat.le_of_ble_eq_true rfl) dL_law_526 ⟨by show _ ≤ 603072; omega, by show _ ≤ 7207018; omega⟩ (fun r_526 u_526 H locs hp hG hS => ?_)
  obtain ⟨ad2, S2, X2, ow2, rfl, rfl, hsm, hD2, h62, hal⟩ := hp
  have hCb : zo_en S (zs_ix (xs (nI (i + 1)).toNatClampNeg)) (zs_ix (xs (nI (i + 2)).toNatClampNeg)) < 2 ^ 31 := by
    unfold zo_en
    repeat' split
    all_goals decide
  rw [← hsm 0 (by omega), ← hsm 14 (by omega), ← hsm 33 (by omega), ← hsm 34 (by omega)] at hl
  refine lv_istore (lv' := [(6, .int (nI (zo_en S (zs_ix (xs (nI (i + 1)).toNatClampNeg)) (zs_ix (xs (nI (i + 2)).toNatClampNeg))))), (0, .ref bq), (1, .ref (ad2 0 0)), (2, .ref (ad2 14 0)), (3, .ref (ad2 33 0)), (4, .ref (ad2 34 0)), (5, .int (nI i))]) hx hb dL_law_529 hl (by decide) rfl (fun ls hl => ?_)
  refine lv_aload_n hx hb dL_law_531 rfl (lv_at hl 3 rfl) ?_
  refine lv_aload_n hx hb dL_law_532 rfl (lv_at hl 1 rfl) ?_
  refine lv_iload hx hb dL_law_533 (lv_at hl 6 rfl) ?_
  refine zb_iconst (n := 1) hx hb dL_law_535 (by decide) ?_
  refine zb_iadd hx hb dL_law_536 ?_
  refine va_sld hx hb hX hbl hbA hS (vp_in_nI (by omega) (by omega)) dL_law_537 ?_
  refine lv_aload_n hx hb dL_law_538 rfl (lv_at hl 1 rfl) ?_
  refine lv_iload hx hb dL_law_539 (lv_at hl 6 rfl) ?_
  refine zb_iconst (n := 2) hx hb dL_law_541 (by decide) ?_
  refine zb_iadd hx hb dL_law_542 ?_
  refine va_sld hx hb hX hbl hbA hS (vp_in_nI (by omega) (by omega)) dL_law_543 ?_
  refine zc_Vi (As := [.int (xs (nI (i + 1)).toNatClampNeg), .int (xs (nI (i + 2)).toNatClampNeg)]) (rest := []) hK hZ hb0 hG hS hx hb hml hown hts (c_X7_enter l (xs (nI (i + 1)).toNatClampNeg) (xs (nI (i + 2)).toNatClampNeg) (zw_D.M hD h6 hY)) (cwV 2 hts gL_law_X7_enter rfl rfl rfl (by decide +kernel) ⟨Nat.le_of_ble_eq_true rfl, Nat.le_of_ble_eq_true rfl⟩) (za_recv (q := (RX7, TX7, 25)) hK hG 14 0 ⟨by omega, rfl⟩ rfl rfl rfl) rfl hl rfl (Nat.le_of_ble_eq_true rfl) dL_law_544 ⟨by show _ ≤ 603072; omega, by show _ ≤ 7207018; omega⟩ (fun r_544 u_544 H locs hp hG hS => ?_)
  obtain ⟨T2, Y2, rfl, hy, hmo⟩ := hp
  rcases hal with ⟨hc0, h1, h2⟩ | ⟨hc1, h1⟩
  · obtain ⟨-, h3, h4⟩ : zo_en S (zs_ix (xs (nI (i + 1)).toNatClampNeg)) (zs_ix (xs (nI (i + 2)).toNatClampNeg)) = 0 ∧ T2 = zs_st (zs_mv S (zs_ix (xs (nI (i + 1)).toNatClampNeg)) (some (zs_ix (xs (nI (i + 2)).toNatClampNeg)))) 10 ∧ r_544 = nI ((zs_st (zs_mv S (zs_ix (xs (nI (i + 1)).toNatClampNeg)) (some (zs_ix (xs (nI (i + 2)).toNatClampNeg)))) 10).1 5 (zs_ix (xs (nI (i + 2)).toNatClampNeg)) 0) := by
      rcases hmo with h | ⟨h, -⟩
      · exact h
      · exact absurd hc0 h
    have hce2 : zs_ce S ≤ zs_ce (zs_st (zs_mv S (zs_ix (xs (nI (i + 1)).toNatClampNeg)) (some (zs_ix (xs (nI (i + 2)).toNatClampNeg)))) 10) ∧ zs_sl S ≤ zs_sl (zs_st (zs_mv S (zs_ix (xs (nI (i + 1)).toNatClampNeg)) (some (zs_ix (xs (nI (i + 2)).toNatClampNeg)))) 10) := zl_7 (by rw [zs_st_1]; exact zs_mv_1 S _ _ (by decide) (by decide))
    subst h1
    subst h3
    subst h2
    subst h4
    refine lv_istore (lv' := [(7, .int (nI ((zs_st (zs_mv S (zs_ix (xs (nI (i + 1)).toNatClampNeg)) (some (zs_ix (xs (nI (i + 2)).toNatClampNeg)))) 10).1 5 (zs_ix (xs (nI (i + 2)).toNatClampNeg)) 0))), (6, .int (nI (zo_en S (zs_ix (xs (nI (i + 1)).toNatClampNeg)) (zs_ix (xs (nI (i + 2)).toNatClampNeg))))), (0, .ref bq), (1, .ref (ad2 0 0)), (2, .ref (ad2 14 0)), (3, .ref (ad2 33 0)), (4, .ref (ad2 34 0)), (5, .int (nI i))]) hx hb dL_law_547 hl (by decide) rfl (fun ls hl => ?_)
    refine lv_aload_n hx hb dL_law_549 rfl (lv_at hl 4 rfl) ?_
    refine zc_Vi (As := []) (rest := []) hK hZ hb0 hG hS hx hb hml hown hts (c_X7_thrown l ) (cwV 0 hts gL_law_X7_thrown rfl rfl rfl (by decide +kernel) ⟨Nat.le_of_ble_eq_true rfl, Nat.le_of_ble_eq_true rfl⟩) (za_recv (q := (RX7, TX7, 25)) hK hG 14 0 ⟨by omega, rfl⟩ rfl rfl rfl) rfl hl rfl (Nat.le_of_ble_eq_true rfl) dL_law_550 ⟨by show _ ≤ 603072; omega, by show _ ≤ 7207018; omega⟩ (fun r_550 u_550 H locs hp hG hS => ?_)
    obtain ⟨rfl, rfl⟩ := hp
    refine lv_iload hx hb dL_law_553 (lv_at hl 1 rfl) ?_
    refine lv_icmp_eq (tgt := 560) hx hb dL_law_555 (by decide) (fun c_555 => ?_) (fun c_555 => ?_)
    · refine lv_iload hx hb dL_law_560 (lv_at hl 1 rfl) ?_
      refine zb_if_ne (x := zo_en S (zs_ix (xs (nI (i + 1)).toNatClampNeg)) (zs_ix (xs (nI (i + 2)).toNatClampNeg))) (tgt := 577) hx hb (by omega) dL_law_562 (by decide) (fun c_562 => ?_) (fun c_562 => ?_)
      · exact absurd hc0 c_562
      · refine lv_aload_n hx hb dL_law_565 rfl (lv_at hl 5 rfl) ?_
        refine zb_iconst (n := 0) hx hb dL_law_566 (by decide) ?_
        refine zld_OL hx hb hK hG (by omega) rfl dL_law_567 ?_
        refine lv_iload hx hb dL_law_568 (lv_at hl 0 rfl) ?_
        refine lv_i2l hx hb dL_law_570 rfl ?_
        refine W.lcmp hx hb dL_law_571 ?_
        refine lv_if_eq (tgt := 577) hx hb dL_law_572 (by decide) (fun c_572 => ?_) (fun c_572 => ?_)
        · refine zb_goto (tgt := 2168) hx hb dL_law_577 (by decide) ?_
          refine zb_iinc (n := 3) (k := 7) (lv' := [(5, .int (nI (i + 3))), (7, .int (nI ((zs_st (zs_mv S (zs_ix (xs (nI (i + 1)).toNatClampNeg)) (some (zs_ix (xs (nI (i + 2)).toNatClampNeg)))) 10).1 5 (zs_ix (xs (nI (i + 2)).toNatClampNeg)) 0))), (6, .int (nI (zo_en S (zs_ix (xs (nI (i + 1)).toNatClampNeg)) (zs_ix (xs (nI (i + 2)).toNatClampNeg))))), (0, .ref bq), (1, .ref (ad2 0 0)), (2, .ref (ad2 14 0)), (3, .ref (ad2 33 0)), (4, .ref (ad2 34 0))]) hx hb dL_law_2168 hl rfl (by decide) (by decide) rfl (fun ls hl => ?_)
          refine zb_goto (tgt := 28) hx hb dL_law_2171 (by decide) ?_
          have hcf := hce2
          exact kk _ (zs_st (zs_mv S (zs_ix (xs (nI (i + 1)).toNatClampNeg)) (some (zs_ix (xs (nI (i + 2)).toNatClampNeg)))) 10) _ _ _ _ _ _ _ _ _ hG hS hD2 h62 hy.2 (by omega) (by omega) (lv_sub hl [3, 4, 5, 6, 7, 0] rfl)
        · exact absurd (zl_self _) c_572
    · exact absurd (by rw [hy.1]) c_555
  · have h3 : T2 = S := by
      rcases hmo with ⟨h, -⟩ | ⟨-, h⟩
      · exact absurd h hc1
      · exact h
    obtain rfl : S = S2 := h1.symm
    obtain rfl : S = T2 := h3.symm
    refine lv_istore (lv' := [(7, .int r_544), (6, .int (nI (zo_en S (zs_ix (xs (nI (i + 1)).toNatClampNeg)) (zs_ix (xs (nI (i + 2)).toNatClampNeg))))), (0, .ref bq), (1, .ref (ad2 0 0)), (2, .ref (ad2 14 0)), (3, .ref (ad2 33 0)), (4, .ref (ad2 34 0)), (5, .int (nI i))]) hx hb dL_law_547 hl (by decide) rfl (fun ls hl => ?_)
    refine lv_aload_n hx hb dL_law_549 rfl (lv_at hl 4 rfl) ?_
    refine zc_Vi (As := []) (rest := []) hK hZ hb0 hG hS hx hb hml hown hts (c_X7_thrown l ) (cwV 0 hts gL_law_X7_thrown rfl rfl rfl (by decide +kernel) ⟨Nat.le_of_ble_eq_true rfl, Nat.le_of_ble_eq_true rfl⟩) (za_recv (q := (RX7, TX7, 25)) hK hG 14 0 ⟨by omega, rfl⟩ rfl rfl rfl) rfl hl rfl (Nat.le_of_ble_eq_true rfl) dL_law_550 ⟨by show _ ≤ 603072; omega, by show _ ≤ 7207018; omega⟩ (fun r_550 u_550 H locs hp hG hS => ?_)
    obtain ⟨rfl, rfl⟩ := hp
    refine lv_iload hx hb dL_law_553 (lv_at hl 1 rfl) ?_
    refine lv_icmp_eq (tgt := 560) hx hb dL_law_555 (by decide) (fun c_555 => ?_) (fun c_555 => ?_)
    · refine lv_iload hx hb dL_law_560 (lv_at hl 1 rfl) ?_
      refine zb_if_ne (x := zo_en S (zs_ix (xs (nI (i + 1)).toNatClampNeg)) (zs_ix (xs (nI (i + 2)).toNatClampNeg))) (tgt := 577) hx hb (by omega) dL_law_562 (by decide) (fun c_562 => ?_) (fun c_562 => ?_)
      · refine zb_goto (tgt := 2168) hx hb dL_law_577 (by decide) ?_
        refine zb_iinc (n := 3) (k := 7) (lv' := [(5, .int (nI (i + 3))), (7, .int r_544), (6, .int (nI (zo_en S (zs_ix (xs (nI (i + 1)).toNatClampNeg)) (zs_ix (xs (nI (i + 2)).toNatClampNeg))))), (0, .ref bq), (1, .ref (ad2 0 0)), (2, .ref (ad2 14 0)), (3, .ref (ad2 33 0)), (4, .ref (ad2 34 0))]) hx hb dL_law_2168 hl rfl (by decide) (by decide) rfl (fun ls hl => ?_)
        refine zb_goto (tgt := 28) hx hb dL_law_2171 (by decide) ?_
        exact kk _ S _ _ _ _ _ _ _ _ _ hG hS hD2 h62 hy.2 (by omega) (by omega) (lv_sub hl [3, 4, 5, 6, 7, 0] rfl)
      · exact absurd c_562 hc1
    · exact absurd (by rw [hy.1]) c_555

set_option maxRecDepth 100000 in
set_option maxHeartbeats 4000000 in
theorem lq_6 {p : Program} {l : Launch} {e : Env} {s : State} {m : MethodId} {below : List Frame} {meth : Method} {c : Code} {bq b L i : Nat} {xs : Nat → Int32} {E : za_E} (hl0 : l.stackTraces = false) (hL : L ≤ 1536) (C0 : lw_At p s m meth c bq L xs) (hK : za_K E s) (hZ : za_Z b s s.heap) (hAO : va_AO RX2 s) (hb0 : b ≤ s.heap.size) (hbA : ¬ za_A b bq) (hi : i + 3 ≤ L) (kk : zl_at p l e s m below meth c bq b E (i + 3))
    {ad : za_Ad} {S X Y : za_S} {ow : Int64} {dw : UInt64} {H : Heap} {locs : List Loc} {k n : Nat} {ls : Array Slot} (hG : za_G E b (ad, S, X, S, Y, ow, dw) H) (hS : va_S (za_A b) s.heap H locs) (hD : zs_D S X) (h6 : zs_6 S) (hY : zs_B Y) (hk : k ≤ 100 + 2 * i + zs_ce S) (hn : n ≤ 29000 + 14 * i + zs_sl S) (hl : lv_has ls 9 [(0, .ref bq), (1, .ref (ad 0 0)), (2, .ref (ad 14 0)), (3, .ref (ad 33 0)), (4, .ref (ad 34 0)), (5, .int (nI i))]) : W p l e room_1 s m #[Value.ref bq] below meth c H locs k n (lw_Z below #[Value.ref bq] s) (F0 m 580 ls []) := by
  obtain ⟨hx, hb, hr, hml, hown, hts0, hX, hbl, hlocks, hgv⟩ := C0
  have hts : ∀ w ∈ wsL_law, w.before #[Value.ref bq] s = true := fun w h => hts0 w (wsL_law_in w h)
  have hce := zs_ce_le hD.1
  refine lv_aload_n hx hb dL_law_580 rfl (lv_at hl 1 rfl) ?_
  refine lv_aload_n hx hb dL_law_581 rfl (lv_at hl 0 rfl) ?_
  refine lv_iload hx hb dL_law_582 (lv_at hl 5 rfl) ?_
  refine zb_iconst (n := 1) hx hb dL_law_584 (by decide) ?_
  refine zb_iadd hx hb dL_law_585 ?_
  refine va_sld hx hb hX hbl hbA hS (vp_in_nI (by omega) (by omega)) dL_law_586 ?_
  refine lv_aload_n hx hb dL_law_587 rfl (lv_at hl 3 rfl) ?_
  refine zc_LSi (As := [.ref (ad 0 0), .int (xs (nI (i + 1)).toNatClampNeg), .ref (ad 33 0)]) (rest := []) hK hZ hAO hb0 hG hS hx hb hml hown hts (c_L_leave l hl0 (xs (nI (i + 1)).toNatClampNeg) hD h6) (vx_cwSW 3 hts gL_law_L_leave rfl rfl rfl (by decide +kernel) ⟨Nat.le_of_ble_eq_true rfl, Nat.le_of_ble_eq_true rfl⟩) rfl hl rfl (Nat.le_of_ble_eq_true rfl) dL_law_588 ⟨by show _ ≤ 603072; omega, by show _ ≤ 7207018; omega⟩ (fun r_588 u_588 H locs hp hG hS => ?_)
  obtain ⟨ad2, S2, X2, ow2, rfl, rfl, hsm, hD2, h62, hal⟩ := hp
  have hCb : zo_po S (zs_ix (xs (nI (i + 1)).toNatClampNeg)) 0 < 2 ^ 31 := by
    unfold zo_po
    repeat' split
    all_goals decide
  rw [← hsm 0 (by omega), ← hsm 14 (by omega), ← hsm 33 (by omega), ← hsm 34 (by omega)] at hl
  refine lv_istore (lv' := [(6, .int (nI (zo_po S (zs_ix (xs (nI (i + 1)).toNatClampNeg)) 0))), (0, .ref bq), (1, .ref (ad2 0 0)), (2, .ref (ad2 14 0)), (3, .ref (ad2 33 0)), (4, .ref (ad2 34 0)), (5, .int (nI i))]) hx hb dL_law_591 hl (by decide) rfl (fun ls hl => ?_)
  refine lv_aload_n hx hb dL_law_593 rfl (lv_at hl 3 rfl) ?_
  refine lv_aload_n hx hb dL_law_594 rfl (lv_at hl 1 rfl) ?_
  refine lv_iload hx hb dL_law_595 (lv_at hl 6 rfl) ?_
  refine zb_iconst (n := 1) hx hb dL_law_597 (by decide) ?_
  refine zb_iadd hx hb dL_law_598 ?_
  refine va_sld hx hb hX hbl hbA hS (vp_in_nI (by omega) (by omega)) dL_law_599 ?_
  refine zc_Vi (As := [.int (xs (nI (i + 1)).toNatClampNeg)]) (rest := []) hK hZ hb0 hG hS hx hb hml hown hts (c_X7_leave l (xs (nI (i + 1)).toNatClampNeg) (zw_D.M hD h6 hY)) (cwV 1 hts gL_law_X7_leave rfl rfl rfl (by decide +kernel) ⟨Nat.le_of_ble_eq_true rfl, Nat.le_of_ble_eq_true rfl⟩) (za_recv (q := (RX7, TX7, 25)) hK hG 14 0 ⟨by omega, rfl⟩ rfl rfl rfl) rfl hl rfl (Nat.le_of_ble_eq_true rfl) dL_law_600 ⟨by show _ ≤ 603072; omega, by show _ ≤ 7207018; omega⟩ (fun r_600 u_600 H locs hp hG hS => ?_)
  obtain ⟨T2, Y2, rfl, hy, hmo⟩ := hp
  rcases hal with ⟨hc0, h1, h2⟩ | ⟨hc1, h1⟩
  · obtain ⟨-, h3, h4⟩ : zo_po S (zs_ix (xs (nI (i + 1)).toNatClampNeg)) 0 = 0 ∧ T2 = zs_st (zs_mv S (zs_ix (xs (nI (i + 1)).toNatClampNeg)) none) 10 ∧ r_600 = nI ((S.2 0 (zs_ix (xs (nI (i + 1)).toNatClampNeg)) 0).getD 0) := by
      rcases hmo with h | ⟨h, -⟩
      · exact h
      · exact absurd hc0 h
    have hce2 : zs_ce S ≤ zs_ce (zs_st (zs_mv S (zs_ix (xs (nI (i + 1)).toNatClampNeg)) none) 10) ∧ zs_sl S ≤ zs_sl (zs_st (zs_mv S (zs_ix (xs (nI (i + 1)).toNatClampNeg)) none) 10) := zl_7 (by rw [zs_st_1]; exact zs_mv_1 S _ _ (by decide) (by decide))
    subst h1
    subst h3
    subst h2
    subst h4
    refine lv_istore (lv' := [(7, .int (nI ((S.2 0 (zs_ix (xs (nI (i + 1)).toNatClampNeg)) 0).getD 0))), (6, .int (nI (zo_po S (zs_ix (xs (nI (i + 1)).toNatClampNeg)) 0))), (0, .ref bq), (1, .ref (ad2 0 0)), (2, .ref (ad2 14 0)), (3, .ref (ad2 33 0)), (4, .ref (ad2 34 0)), (5, .int (nI i))]) hx hb dL_law_603 hl (by decide) rfl (fun ls hl => ?_)
    refine lv_aload_n hx hb dL_law_605 rfl (lv_at hl 4 rfl) ?_
    refine zc_Vi (As := []) (rest := []) hK hZ hb0 hG hS hx hb hml hown hts (c_X7_thrown l ) (cwV 0 hts gL_law_X7_thrown rfl rfl rfl (by decide +kernel) ⟨Nat.le_of_ble_eq_true rfl, Nat.le_of_ble_eq_true rfl⟩) (za_recv (q := (RX7, TX7, 25)) hK hG 14 0 ⟨by omega, rfl⟩ rfl rfl rfl) rfl hl rfl (Nat.le_of_ble_eq_true rfl) dL_law_606 ⟨by show _ ≤ 603072; omega, by show _ ≤ 7207018; omega⟩ (fun r_606 u_606 H locs hp hG hS => ?_)
    obtain ⟨rfl, rfl⟩ := hp
    refine lv_iload hx hb dL_law_609 (lv_at hl 1 rfl) ?_
    refine lv_icmp_eq (tgt := 616) hx hb dL_law_611 (by decide) (fun c_611 => ?_) (fun c_611 => ?_)
    · refine lv_iload hx hb dL_law_616 (lv_at hl 1 rfl) ?_
      refine zb_if_ne (x := zo_po S (zs_ix (xs (nI (i + 1)).toNatClampNeg)) 0) (tgt := 633) hx hb (by omega) dL_law_618 (by decide) (fun c_618 => ?_) (fun c_618 => ?_)
      · exact absurd hc0 c_618
      · refine lv_aload_n hx hb dL_law_621 rfl (lv_at hl 5 rfl) ?_
        refine zb_iconst (n := 0) hx hb dL_law_622 (by decide) ?_
        refine zld_OL hx hb hK hG (by omega) rfl dL_law_623 ?_
        refine lv_iload hx hb dL_law_624 (lv_at hl 0 rfl) ?_
        refine lv_i2l hx hb dL_law_626 rfl ?_
        refine W.lcmp hx hb dL_law_627 ?_
        refine lv_if_eq (tgt := 633) hx hb dL_law_628 (by decide) (fun c_628 => ?_) (fun c_628 => ?_)
        · refine zb_goto (tgt := 2168) hx hb dL_law_633 (by decide) ?_
          refine zb_iinc (n := 3) (k := 7) (lv' := [(5, .int (nI (i + 3))), (7, .int (nI ((S.2 0 (zs_ix (xs (nI (i + 1)).toNatClampNeg)) 0).getD 0))), (6, .int (nI (zo_po S (zs_ix (xs (nI (i + 1)).toNatClampNeg)) 0))), (0, .ref bq), (1, .ref (ad2 0 0)), (2, .ref (ad2 14 0)), (3, .ref (ad2 33 0)), (4, .ref (ad2 34 0))]) hx hb dL_law_2168 hl rfl (by decide) (by decide) rfl (fun ls hl => ?_)
          refine zb_goto (tgt := 28) hx hb dL_law_2171 (by decide) ?_
          have hcf := hce2
          exact kk _ (zs_st (zs_mv S (zs_ix (xs (nI (i + 1)).toNatClampNeg)) none) 10) _ _ _ _ _ _ _ _ _ hG hS hD2 h62 hy.2 (by omega) (by omega) (lv_sub hl [3, 4, 5, 6, 7, 0] rfl)
        · exact absurd (zl_self _) c_628
    · exact absurd (by rw [hy.1]) c_611
  · have h3 : T2 = S := by
      rcases hmo with ⟨h, -⟩ | ⟨-, h⟩
      · exact absurd h hc1
      · exact h
    obtain rfl : S = S2 := h1.symm
    obtain rfl : S = T2 := h3.symm
    refine lv_istore (lv' := [(7, .int r_600), (6, .int (nI (zo_po S (zs_ix (xs (nI (i + 1)).toNatClampNeg)) 0))), (0, .ref bq), (1, .ref (ad2 0 0)), (2, .ref (ad2 14 0)), (3, .ref (ad2 33 0)), (4, .ref (ad2 34 0)), (5, .int (nI i))]) hx hb dL_law_603 hl (by decide) rfl (fun ls hl => ?_)
    refine lv_aload_n hx hb dL_law_605 rfl (lv_at hl 4 rfl) ?_
    refine zc_Vi (As := []) (rest := []) hK hZ hb0 hG hS hx hb hml hown hts (c_X7_thrown l ) (cwV 0 hts gL_law_X7_thrown rfl rfl rfl (by decide +kernel) ⟨Nat.le_of_ble_eq_true rfl, Nat.le_of_ble_eq_true rfl⟩) (za_recv (q := (RX7, TX7, 25)) hK hG 14 0 ⟨by omega, rfl⟩ rfl rfl rfl) rfl hl rfl (Nat.le_of_ble_eq_true rfl) dL_law_606 ⟨by show _ ≤ 603072; omega, by show _ ≤ 7207018; omega⟩ (fun r_606 u_606 H locs hp hG hS => ?_)
    obtain ⟨rfl, rfl⟩ := hp
    refine lv_iload hx hb dL_law_609 (lv_at hl 1 rfl) ?_
    refine lv_icmp_eq (tgt := 616) hx hb dL_law_611 (by decide) (fun c_611 => ?_) (fun c_611 => ?_)
    · refine lv_iload hx hb dL_law_616 (lv_at hl 1 rfl) ?_
      refine zb_if_ne (x := zo_po S (zs_ix (xs (nI (i + 1)).toNatClampNeg)) 0) (tgt := 633) hx hb (by omega) dL_law_618 (by decide) (fun c_618 => ?_) (fun c_618 => ?_)
      · refine zb_goto (tgt := 2168) hx hb dL_law_633 (by decide) ?_
        refine zb_iinc (n := 3) (k := 7) (lv' := [(5, .int (nI (i + 3))), (7, .int r_600), (6, .int (nI (zo_po S (zs_ix (xs (nI (i + 1)).toNatClampNeg)) 0))), (0, .ref bq), (1, .ref (ad2 0 0)), (2, .ref (ad2 14 0)), (3, .ref (ad2 33 0)), (4, .ref (ad2 34 0))]) hx hb dL_law_2168 hl rfl (by decide) (by decide) rfl (fun ls hl => ?_)
        refine zb_goto (tgt := 28) hx hb dL_law_2171 (by decide) ?_
        exact kk _ S _ _ _ _ _ _ _ _ _ hG hS hD2 h62 hy.2 (by omega) (by omega) (lv_sub hl [3, 4, 5, 6, 7, 0] rfl)
      · exact absurd c_618 hc1
    · exact absurd (by rw [hy.1]) c_611

set_option maxRecDepth 100000 in
set_option maxHeartbeats 4000000 in
theorem lq_7 {p : Program} {l : Launch} {e : Env} {s : State} {m : MethodId} {below : List Frame} {meth : Method} {c : Code} {bq b L i : Nat} {xs : Nat → Int32} {E : za_E} (hl0 : l.stackTraces = false) (hL : L ≤ 1536) (C0 : lw_At p s m meth c bq L xs) (hK : za_K E s) (hZ : za_Z b s s.heap) (hAO : va_AO RX2 s) (hb0 : b ≤ s.heap.size) (hbA : ¬ za_A b bq) (hi : i + 3 ≤ L) (kk : zl_at p l e s m below meth c bq b E (i + 3))
    {ad : za_Ad} {S X Y : za_S} {ow : Int64} {dw : UInt64} {H : Heap} {locs : List Loc} {k n : Nat} {ls : Array Slot} (hG : za_G E b (ad, S, X, S, Y, ow, dw) H) (hS : va_S (za_A b) s.heap H locs) (hD : zs_D S X) (h6 : zs_6 S) (hY : zs_B Y) (hk : k ≤ 100 + 2 * i + zs_ce S) (hn : n ≤ 29000 + 14 * i + zs_sl S) (hl : lv_has ls 9 [(0, .ref bq), (1, .ref (ad 0 0)), (2, .ref (ad 14 0)), (3, .ref (ad 33 0)), (4, .ref (ad 34 0)), (5, .int (nI i))]) : W p l e room_1 s m #[Value.ref bq] below meth c H locs k n (lw_Z below #[Value.ref bq] s) (F0 m 636 ls []) := by
  obtain ⟨hx, hb, hr, hml, hown, hts0, hX, hbl, hlocks, hgv⟩ := C0
  have hts : ∀ w ∈ wsL_law, w.before #[Value.ref bq] s = true := fun w h => hts0 w (wsL_law_in w h)
  have hce := zs_ce_le hD.1
  refine lv_aload_n hx hb dL_law_636 rfl (lv_at hl 1 rfl) ?_
  refine lv_aload_n hx hb dL_law_637 rfl (lv_at hl 0 rfl) ?_
  refine lv_iload hx hb dL_law_638 (lv_at hl 5 rfl) ?_
  refine zb_iconst (n := 1) hx hb dL_law_640 (by decide) ?_
  refine zb_iadd hx hb dL_law_641 ?_
  refine va_sld hx hb hX hbl hbA hS (vp_in_nI (by omega) (by omega)) dL_law_642 ?_
  refine lv_aload_n hx hb dL_law_643 rfl (lv_at hl 3 rfl) ?_
  refine zc_LSi (As := [.ref (ad 0 0), .int (xs (nI (i + 1)).toNatClampNeg), .ref (ad 33 0)]) (rest := []) hK hZ hAO hb0 hG hS hx hb hml hown hts (c_L_split l hl0 (xs (nI (i + 1)).toNatClampNeg) hD h6) (vx_cwSW 3 hts gL_law_L_split rfl rfl rfl (by decide +kernel) ⟨Nat.le_of_ble_eq_true rfl, Nat.le_of_ble_eq_true rfl⟩) rfl hl rfl (Nat.le_of_ble_eq_true rfl) dL_law_644 ⟨by show _ ≤ 603072; omega, by show _ ≤ 7207018; omega⟩ (fun r_644 u_644 H locs hp hG hS => ?_)
  obtain ⟨ad2, S2, X2, ow2, rfl, rfl, hsm, hD2, h62, hal⟩ := hp
  have hCb : zo_sp S (zs_ix (xs (nI (i + 1)).toNatClampNeg)) < 2 ^ 31 := by
    unfold zo_sp
    repeat' split
    all_goals decide
  rw [← hsm 0 (by omega), ← hsm 14 (by omega), ← hsm 33 (by omega), ← hsm 34 (by omega)] at hl
  refine lv_istore (lv' := [(6, .int (nI (zo_sp S (zs_ix (xs (nI (i + 1)).toNatClampNeg))))), (0, .ref bq), (1, .ref (ad2 0 0)), (2, .ref (ad2 14 0)), (3, .ref (ad2 33 0)), (4, .ref (ad2 34 0)), (5, .int (nI i))]) hx hb dL_law_647 hl (by decide) rfl (fun ls hl => ?_)
  refine lv_aload_n hx hb dL_law_649 rfl (lv_at hl 3 rfl) ?_
  refine lv_aload_n hx hb dL_law_650 rfl (lv_at hl 1 rfl) ?_
  refine lv_iload hx hb dL_law_651 (lv_at hl 6 rfl) ?_
  refine zb_iconst (n := 1) hx hb dL_law_653 (by decide) ?_
  refine zb_iadd hx hb dL_law_654 ?_
  refine va_sld hx hb hX hbl hbA hS (vp_in_nI (by omega) (by omega)) dL_law_655 ?_
  refine zc_Vi (As := [.int (xs (nI (i + 1)).toNatClampNeg)]) (rest := []) hK hZ hb0 hG hS hx hb hml hown hts (c_X7_split l (xs (nI (i + 1)).toNatClampNeg) (zw_D.M hD h6 hY)) (cwV 1 hts gL_law_X7_split rfl rfl rfl (by decide +kernel) ⟨Nat.le_of_ble_eq_true rfl, Nat.le_of_ble_eq_true rfl⟩) (za_recv (q := (RX7, TX7, 25)) hK hG 14 0 ⟨by omega, rfl⟩ rfl rfl rfl) rfl hl rfl (Nat.le_of_ble_eq_true rfl) dL_law_656 ⟨by show _ ≤ 603072; omega, by show _ ≤ 7207018; omega⟩ (fun r_656 u_656 H locs hp hG hS => ?_)
  obtain ⟨T2, Y2, rfl, hy, hmo⟩ := hp
  rcases hal with ⟨hc0, h1, h2⟩ | ⟨hc1, h1⟩
  · obtain ⟨-, h3, h4⟩ : zo_sp S (zs_ix (xs (nI (i + 1)).toNatClampNeg)) = 0 ∧ T2 = zs_st (zs_spl (zs_nr S) (zs_ix (xs (nI (i + 1)).toNatClampNeg)) (S.1 0 1 0) 9) 10 ∧ r_656 = nI (S.1 0 1 0) := by
      rcases hmo with h | ⟨h, -⟩
      · exact h
      · exact absurd hc0 h
    have hce2 : zs_ce S ≤ zs_ce (zs_st (zs_spl (zs_nr S) (zs_ix (xs (nI (i + 1)).toNatClampNeg)) (S.1 0 1 0) 9) 10) ∧ zs_sl S ≤ zs_sl (zs_st (zs_spl (zs_nr S) (zs_ix (xs (nI (i + 1)).toNatClampNeg)) (S.1 0 1 0) 9) 10) := zl_7 (by rw [zs_st_1]; exact zs_spl_1 (zs_nr S) _ _ (by decide) (by decide) 9)
    subst h1
    subst h3
    subst h2
    subst h4
    refine lv_istore (lv' := [(7, .int (nI (S.1 0 1 0))), (6, .int (nI (zo_sp S (zs_ix (xs (nI (i + 1)).toNatClampNeg))))), (0, .ref bq), (1, .ref (ad2 0 0)), (2, .ref (ad2 14 0)), (3, .ref (ad2 33 0)), (4, .ref (ad2 34 0)), (5, .int (nI i))]) hx hb dL_law_659 hl (by decide) rfl (fun ls hl => ?_)
    refine lv_aload_n hx hb dL_law_661 rfl (lv_at hl 4 rfl) ?_
    refine zc_Vi (As := []) (rest := []) hK hZ hb0 hG hS hx hb hml hown hts (c_X7_thrown l ) (cwV 0 hts gL_law_X7_thrown rfl rfl rfl (by decide +kernel) ⟨Nat.le_of_ble_eq_true rfl, Nat.le_of_ble_eq_true rfl⟩) (za_recv (q := (RX7, TX7, 25)) hK hG 14 0 ⟨by omega, rfl⟩ rfl rfl rfl) rfl hl rfl (Nat.le_of_ble_eq_true rfl) dL_law_662 ⟨by show _ ≤ 603072; omega, by show _ ≤ 7207018; omega⟩ (fun r_662 u_662 H locs hp hG hS => ?_)
    obtain ⟨rfl, rfl⟩ := hp
    refine lv_iload hx hb dL_law_665 (lv_at hl 1 rfl) ?_
    refine lv_icmp_eq (tgt := 672) hx hb dL_law_667 (by decide) (fun c_667 => ?_) (fun c_667 => ?_)
    · refine lv_iload hx hb dL_law_672 (lv_at hl 1 rfl) ?_
      refine zb_if_ne (x := zo_sp S (zs_ix (xs (nI (i + 1)).toNatClampNeg))) (tgt := 689) hx hb (by omega) dL_law_674 (by decide) (fun c_674 => ?_) (fun c_674 => ?_)
      · exact absurd hc0 c_674
      · refine lv_aload_n hx hb dL_law_677 rfl (lv_at hl 5 rfl) ?_
        refine zb_iconst (n := 0) hx hb dL_law_678 (by decide) ?_
        refine zld_OL hx hb hK hG (by omega) rfl dL_law_679 ?_
        refine lv_iload hx hb dL_law_680 (lv_at hl 0 rfl) ?_
        refine lv_i2l hx hb dL_law_682 rfl ?_
        refine W.lcmp hx hb dL_law_683 ?_
        refine lv_if_eq (tgt := 689) hx hb dL_law_684 (by decide) (fun c_684 => ?_) (fun c_684 => ?_)
        · refine zb_goto (tgt := 2168) hx hb dL_law_689 (by decide) ?_
          refine zb_iinc (n := 3) (k := 7) (lv' := [(5, .int (nI (i + 3))), (7, .int (nI (S.1 0 1 0))), (6, .int (nI (zo_sp S (zs_ix (xs (nI (i + 1)).toNatClampNeg))))), (0, .ref bq), (1, .ref (ad2 0 0)), (2, .ref (ad2 14 0)), (3, .ref (ad2 33 0)), (4, .ref (ad2 34 0))]) hx hb dL_law_2168 hl rfl (by decide) (by decide) rfl (fun ls hl => ?_)
          refine zb_goto (tgt := 28) hx hb dL_law_2171 (by decide) ?_
          have hcf := hce2
          exact kk _ (zs_st (zs_spl (zs_nr S) (zs_ix (xs (nI (i + 1)).toNatClampNeg)) (S.1 0 1 0) 9) 10) _ _ _ _ _ _ _ _ _ hG hS hD2 h62 hy.2 (by omega) (by omega) (lv_sub hl [3, 4, 5, 6, 7, 0] rfl)
        · exact absurd (zl_self _) c_684
    · exact absurd (by rw [hy.1]) c_667
  · have h3 : T2 = S := by
      rcases hmo with ⟨h, -⟩ | ⟨-, h⟩
      · exact absurd h hc1
      · exact h
    obtain rfl : S = S2 := h1.symm
    obtain rfl : S = T2 := h3.symm
    refine lv_istore (lv' := [(7, .int r_656), (6, .int (nI (zo_sp S (zs_ix (xs (nI (i + 1)).toNatClampNeg))))), (0, .ref bq), (1, .ref (ad2 0 0)), (2, .ref (ad2 14 0)), (3, .ref (ad2 33 0)), (4, .ref (ad2 34 0)), (5, .int (nI i))]) hx hb dL_law_659 hl (by decide) rfl (fun ls hl => ?_)
    refine lv_aload_n hx hb dL_law_661 rfl (lv_at hl 4 rfl) ?_
    refine zc_Vi (As := []) (rest := []) hK hZ hb0 hG hS hx hb hml hown hts (c_X7_thrown l ) (cwV 0 hts gL_law_X7_thrown rfl rfl rfl (by decide +kernel) ⟨Nat.le_of_ble_eq_true rfl, Nat.le_of_ble_eq_true rfl⟩) (za_recv (q := (RX7, TX7, 25)) hK hG 14 0 ⟨by omega, rfl⟩ rfl rfl rfl) rfl hl rfl (Nat.le_of_ble_eq_true rfl) dL_law_662 ⟨by show _ ≤ 603072; omega, by show _ ≤ 7207018; omega⟩ (fun r_662 u_662 H locs hp hG hS => ?_)
    obtain ⟨rfl, rfl⟩ := hp
    refine lv_iload hx hb dL_law_665 (lv_at hl 1 rfl) ?_
    refine lv_icmp_eq (tgt := 672) hx hb dL_law_667 (by decide) (fun c_667 => ?_) (fun c_667 => ?_)
    · refine lv_iload hx hb dL_law_672 (lv_at hl 1 rfl) ?_
      refine zb_if_ne (x := zo_sp S (zs_ix (xs (nI (i + 1)).toNatClampNeg))) (tgt := 689) hx hb (by omega) dL_law_674 (by decide) (fun c_674 => ?_) (fun c_674 => ?_)
      · refine zb_goto (tgt := 2168) hx hb dL_law_689 (by decide) ?_
        refine zb_iinc (n := 3) (k := 7) (lv' := [(5, .int (nI (i + 3))), (7, .int r_656), (6, .int (nI (zo_sp S (zs_ix (xs (nI (i + 1)).toNatClampNeg))))), (0, .ref bq), (1, .ref (ad2 0 0)), (2, .ref (ad2 14 0)), (3, .ref (ad2 33 0)), (4, .ref (ad2 34 0))]) hx hb dL_law_2168 hl rfl (by decide) (by decide) rfl (fun ls hl => ?_)
        refine zb_goto (tgt := 28) hx hb dL_law_2171 (by decide) ?_
        exact kk _ S _ _ _ _ _ _ _ _ _ hG hS hD2 h62 hy.2 (by omega) (by omega) (lv_sub hl [3, 4, 5, 6, 7, 0] rfl)
      · exact absurd c_674 hc1
    · exact absurd (by rw [hy.1]) c_667

set_option maxRecDepth 100000 in
set_option maxHeartbeats 4000000 in
theorem lq_8 {p : Program} {l : Launch} {e : Env} {s : State} {m : MethodId} {below : List Frame} {meth : Method} {c : Code} {bq b L i : Nat} {xs : Nat → Int32} {E : za_E} (hl0 : l.stackTraces = false) (hL : L ≤ 1536) (C0 : lw_At p s m meth c bq L xs) (hK : za_K E s) (hZ : za_Z b s s.heap) (hAO : va_AO RX2 s) (hb0 : b ≤ s.heap.size) (hbA : ¬ za_A b bq) (hi : i + 3 ≤ L) (kk : zl_at p l e s m below meth c bq b E (i + 3))
    {ad : za_Ad} {S X Y : za_S} {ow : Int64} {dw : UInt64} {H : Heap} {locs : List Loc} {k n : Nat} {ls : Array Slot} (hG : za_G E b (ad, S, X, S, Y, ow, dw) H) (hS : va_S (za_A b) s.heap H locs) (hD : zs_D S X) (h6 : zs_6 S) (hY : zs_B Y) (hk : k ≤ 100 + 2 * i + zs_ce S) (hn : n ≤ 29000 + 14 * i + zs_sl S) (hl : lv_has ls 9 [(0, .ref bq), (1, .ref (ad 0 0)), (2, .ref (ad 14 0)), (3, .ref (ad 33 0)), (4, .ref (ad 34 0)), (5, .int (nI i))]) : W p l e room_1 s m #[Value.ref bq] below meth c H locs k n (lw_Z below #[Value.ref bq] s) (F0 m 692 ls []) := by
  obtain ⟨hx, hb, hr, hml, hown, hts0, hX, hbl, hlocks, hgv⟩ := C0
  have hts : ∀ w ∈ wsL_law, w.before #[Value.ref bq] s = true := fun w h => hts0 w (wsL_law_in w h)
  have hce := zs_ce_le hD.1
  refine lv_aload_n hx hb dL_law_692 rfl (lv_at hl 1 rfl) ?_
  refine lv_aload_n hx hb dL_law_693 rfl (lv_at hl 0 rfl) ?_
  refine lv_iload hx hb dL_law_694 (lv_at hl 5 rfl) ?_
  refine zb_iconst (n := 1) hx hb dL_law_696 (by decide) ?_
  refine zb_iadd hx hb dL_law_697 ?_
  refine va_sld hx hb hX hbl hbA hS (vp_in_nI (by omega) (by omega)) dL_law_698 ?_
  refine lv_aload_n hx hb dL_law_699 rfl (lv_at hl 0 rfl) ?_
  refine lv_iload hx hb dL_law_700 (lv_at hl 5 rfl) ?_
  refine zb_iconst (n := 2) hx hb dL_law_702 (by decide) ?_
  refine zb_iadd hx hb dL_law_703 ?_
  refine va_sld hx hb hX hbl hbA hS (vp_in_nI (by omega) (by omega)) dL_law_704 ?_
  refine lv_aload_n hx hb dL_law_705 rfl (lv_at hl 3 rfl) ?_
  refine zc_LSi (As := [.ref (ad 0 0), .int (xs (nI (i + 1)).toNatClampNeg), .int (xs (nI (i + 2)).toNatClampNeg), .ref (ad 33 0)]) (rest := []) hK hZ hAO hb0 hG hS hx hb hml hown hts (c_L_join l hl0 (xs (nI (i + 1)).toNatClampNeg) (xs (nI (i + 2)).toNatClampNeg) hD h6) (vx_cwSW 4 hts gL_law_L_join rfl rfl rfl (by decide +kernel) ⟨Nat.le_of_ble_eq_true rfl, Nat.le_of_ble_eq_true rfl⟩) rfl hl rfl (Nat.le_of_ble_eq_true rfl) dL_law_706 ⟨by show _ ≤ 603072; omega, by show _ ≤ 7207018; omega⟩ (fun r_706 u_706 H locs hp hG hS => ?_)
  obtain ⟨ad2, S2, X2, ow2, rfl, rfl, hsm, hD2, h62, hal⟩ := hp
  have hCb : zo_jo S (zs_ix (xs (nI (i + 1)).toNatClampNeg)) (zs_ix (xs (nI (i + 2)).toNatClampNeg)) < 2 ^ 31 := by
    unfold zo_jo
    repeat' split
    all_goals decide
  rw [← hsm 0 (by omega), ← hsm 14 (by omega), ← hsm 33 (by omega), ← hsm 34 (by omega)] at hl
  refine lv_istore (lv' := [(6, .int (nI (zo_jo S (zs_ix (xs (nI (i + 1)).toNatClampNeg)) (zs_ix (xs (nI (i + 2)).toNatClampNeg))))), (0, .ref bq), (1, .ref (ad2 0 0)), (2, .ref (ad2 14 0)), (3, .ref (ad2 33 0)), (4, .ref (ad2 34 0)), (5, .int (nI i))]) hx hb dL_law_709 hl (by decide) rfl (fun ls hl => ?_)
  refine lv_aload_n hx hb dL_law_711 rfl (lv_at hl 3 rfl) ?_
  refine lv_aload_n hx hb dL_law_712 rfl (lv_at hl 1 rfl) ?_
  refine lv_iload hx hb dL_law_713 (lv_at hl 6 rfl) ?_
  refine zb_iconst (n := 1) hx hb dL_law_715 (by decide) ?_
  refine zb_iadd hx hb dL_law_716 ?_
  refine va_sld hx hb hX hbl hbA hS (vp_in_nI (by omega) (by omega)) dL_law_717 ?_
  refine lv_aload_n hx hb dL_law_718 rfl (lv_at hl 1 rfl) ?_
  refine lv_iload hx hb dL_law_719 (lv_at hl 6 rfl) ?_
  refine zb_iconst (n := 2) hx hb dL_law_721 (by decide) ?_
  refine zb_iadd hx hb dL_law_722 ?_
  refine va_sld hx hb hX hbl hbA hS (vp_in_nI (by omega) (by omega)) dL_law_723 ?_
  refine zc_Vi (As := [.int (xs (nI (i + 1)).toNatClampNeg), .int (xs (nI (i + 2)).toNatClampNeg)]) (rest := []) hK hZ hb0 hG hS hx hb hml hown hts (c_X7_join l (xs (nI (i + 1)).toNatClampNeg) (xs (nI (i + 2)).toNatClampNeg) (zw_D.M hD h6 hY)) (cwV 2 hts gL_law_X7_join rfl rfl rfl (by decide +kernel) ⟨Nat.le_of_ble_eq_true rfl, Nat.le_of_ble_eq_true rfl⟩) (za_recv (q := (RX7, TX7, 25)) hK hG 14 0 ⟨by omega, rfl⟩ rfl rfl rfl) rfl hl rfl (Nat.le_of_ble_eq_true rfl) dL_law_724 ⟨by show _ ≤ 603072; omega, by show _ ≤ 7207018; omega⟩ (fun r_724 u_724 H locs hp hG hS => ?_)
  obtain ⟨T2, Y2, rfl, hy, hmo⟩ := hp
  rcases hal with ⟨hc0, h1, h2⟩ | ⟨hc1, h1⟩
  · obtain ⟨-, h3, h4⟩ : zo_jo S (zs_ix (xs (nI (i + 1)).toNatClampNeg)) (zs_ix (xs (nI (i + 2)).toNatClampNeg)) = 0 ∧ T2 = zs_st (zs_fw (zs_jn S (zs_ix (xs (nI (i + 1)).toNatClampNeg)) (zs_ix (xs (nI (i + 2)).toNatClampNeg)) 10) (zs_ix (xs (nI (i + 1)).toNatClampNeg)) (zs_ix (xs (nI (i + 2)).toNatClampNeg)) 8) 10 ∧ r_724 = nI ((zs_st (zs_fw (zs_jn S (zs_ix (xs (nI (i + 1)).toNatClampNeg)) (zs_ix (xs (nI (i + 2)).toNatClampNeg)) 10) (zs_ix (xs (nI (i + 1)).toNatClampNeg)) (zs_ix (xs (nI (i + 2)).toNatClampNeg)) 8) 10).1 5 (zs_ix (xs (nI (i + 2)).toNatClampNeg)) 0) := by
      rcases hmo with h | ⟨h, -⟩
      · exact h
      · exact absurd hc0 h
    have hce2 : zs_ce S ≤ zs_ce (zs_st (zs_fw (zs_jn S (zs_ix (xs (nI (i + 1)).toNatClampNeg)) (zs_ix (xs (nI (i + 2)).toNatClampNeg)) 10) (zs_ix (xs (nI (i + 1)).toNatClampNeg)) (zs_ix (xs (nI (i + 2)).toNatClampNeg)) 8) 10) ∧ zs_sl S ≤ zs_sl (zs_st (zs_fw (zs_jn S (zs_ix (xs (nI (i + 1)).toNatClampNeg)) (zs_ix (xs (nI (i + 2)).toNatClampNeg)) 10) (zs_ix (xs (nI (i + 1)).toNatClampNeg)) (zs_ix (xs (nI (i + 2)).toNatClampNeg)) 8) 10) := zl_7 (zl_7jo hD hc0)
    subst h1
    subst h3
    subst h2
    subst h4
    refine lv_istore (lv' := [(7, .int (nI ((zs_st (zs_fw (zs_jn S (zs_ix (xs (nI (i + 1)).toNatClampNeg)) (zs_ix (xs (nI (i + 2)).toNatClampNeg)) 10) (zs_ix (xs (nI (i + 1)).toNatClampNeg)) (zs_ix (xs (nI (i + 2)).toNatClampNeg)) 8) 10).1 5 (zs_ix (xs (nI (i + 2)).toNatClampNeg)) 0))), (6, .int (nI (zo_jo S (zs_ix (xs (nI (i + 1)).toNatClampNeg)) (zs_ix (xs (nI (i + 2)).toNatClampNeg))))), (0, .ref bq), (1, .ref (ad2 0 0)), (2, .ref (ad2 14 0)), (3, .ref (ad2 33 0)), (4, .ref (ad2 34 0)), (5, .int (nI i))]) hx hb dL_law_727 hl (by decide) rfl (fun ls hl => ?_)
    refine lv_aload_n hx hb dL_law_729 rfl (lv_at hl 4 rfl) ?_
    refine zc_Vi (As := []) (rest := []) hK hZ hb0 hG hS hx hb hml hown hts (c_X7_thrown l ) (cwV 0 hts gL_law_X7_thrown rfl rfl rfl (by decide +kernel) ⟨Nat.le_of_ble_eq_true rfl, Nat.le_of_ble_eq_true rfl⟩) (za_recv (q := (RX7, TX7, 25)) hK hG 14 0 ⟨by omega, rfl⟩ rfl rfl rfl) rfl hl rfl (Nat.le_of_ble_eq_true rfl) dL_law_730 ⟨by show _ ≤ 603072; omega, by show _ ≤ 7207018; omega⟩ (fun r_730 u_730 H locs hp hG hS => ?_)
    obtain ⟨rfl, rfl⟩ := hp
    refine lv_iload hx hb dL_law_733 (lv_at hl 1 rfl) ?_
    refine lv_icmp_eq (tgt := 740) hx hb dL_law_735 (by decide) (fun c_735 => ?_) (fun c_735 => ?_)
    · refine lv_iload hx hb dL_law_740 (lv_at hl 1 rfl) ?_
      refine zb_if_ne (x := zo_jo S (zs_ix (xs (nI (i + 1)).toNatClampNeg)) (zs_ix (xs (nI (i + 2)).toNatClampNeg))) (tgt := 757) hx hb (by omega) dL_law_742 (by decide) (fun c_742 => ?_) (fun c_742 => ?_)
      · exact absurd hc0 c_742
      · refine lv_aload_n hx hb dL_law_745 rfl (lv_at hl 5 rfl) ?_
        refine zb_iconst (n := 0) hx hb dL_law_746 (by decide) ?_
        refine zld_OL hx hb hK hG (by omega) rfl dL_law_747 ?_
        refine lv_iload hx hb dL_law_748 (lv_at hl 0 rfl) ?_
        refine lv_i2l hx hb dL_law_750 rfl ?_
        refine W.lcmp hx hb dL_law_751 ?_
        refine lv_if_eq (tgt := 757) hx hb dL_law_752 (by decide) (fun c_752 => ?_) (fun c_752 => ?_)
        · refine zb_goto (tgt := 2168) hx hb dL_law_757 (by decide) ?_
          refine zb_iinc (n := 3) (k := 7) (lv' := [(5, .int (nI (i + 3))), (7, .int (nI ((zs_st (zs_fw (zs_jn S (zs_ix (xs (nI (i + 1)).toNatClampNeg)) (zs_ix (xs (nI (i + 2)).toNatClampNeg)) 10) (zs_ix (xs (nI (i + 1)).toNatClampNeg)) (zs_ix (xs (nI (i + 2)).toNatClampNeg)) 8) 10).1 5 (zs_ix (xs (nI (i + 2)).toNatClampNeg)) 0))), (6, .int (nI (zo_jo S (zs_ix (xs (nI (i + 1)).toNatClampNeg)) (zs_ix (xs (nI (i + 2)).toNatClampNeg))))), (0, .ref bq), (1, .ref (ad2 0 0)), (2, .ref (ad2 14 0)), (3, .ref (ad2 33 0)), (4, .ref (ad2 34 0))]) hx hb dL_law_2168 hl rfl (by decide) (by decide) rfl (fun ls hl => ?_)
          refine zb_goto (tgt := 28) hx hb dL_law_2171 (by decide) ?_
          have hcf := hce2
          exact kk _ (zs_st (zs_fw (zs_jn S (zs_ix (xs (nI (i + 1)).toNatClampNeg)) (zs_ix (xs (nI (i + 2)).toNatClampNeg)) 10) (zs_ix (xs (nI (i + 1)).toNatClampNeg)) (zs_ix (xs (nI (i + 2)).toNatClampNeg)) 8) 10) _ _ _ _ _ _ _ _ _ hG hS hD2 h62 hy.2 (by omega) (by omega) (lv_sub hl [3, 4, 5, 6, 7, 0] rfl)
        · exact absurd (zl_self _) c_752
    · exact absurd (by rw [hy.1]) c_735
  · have h3 : T2 = S := by
      rcases hmo with ⟨h, -⟩ | ⟨-, h⟩
      · exact absurd h hc1
      · exact h
    obtain rfl : S = S2 := h1.symm
    obtain rfl : S = T2 := h3.symm
    refine lv_istore (lv' := [(7, .int r_724), (6, .int (nI (zo_jo S (zs_ix (xs (nI (i + 1)).toNatClampNeg)) (zs_ix (xs (nI (i + 2)).toNatClampNeg))))), (0, .ref bq), (1, .ref (ad2 0 0)), (2, .ref (ad2 14 0)), (3, .ref (ad2 33 0)), (4, .ref (ad2 34 0)), (5, .int (nI i))]) hx hb dL_law_727 hl (by decide) rfl (fun ls hl => ?_)
    refine lv_aload_n hx hb dL_law_729 rfl (lv_at hl 4 rfl) ?_
    refine zc_Vi (As := []) (rest := []) hK hZ hb0 hG hS hx hb hml hown hts (c_X7_thrown l ) (cwV 0 hts gL_law_X7_thrown rfl rfl rfl (by decide +kernel) ⟨Nat.le_of_ble_eq_true rfl, Nat.le_of_ble_eq_true rfl⟩) (za_recv (q := (RX7, TX7, 25)) hK hG 14 0 ⟨by omega, rfl⟩ rfl rfl rfl) rfl hl rfl (Nat.le_of_ble_eq_true rfl) dL_law_730 ⟨by show _ ≤ 603072; omega, by show _ ≤ 7207018; omega⟩ (fun r_730 u_730 H locs hp hG hS => ?_)
    obtain ⟨rfl, rfl⟩ := hp
    refine lv_iload hx hb dL_law_733 (lv_at hl 1 rfl) ?_
    refine lv_icmp_eq (tgt := 740) hx hb dL_law_735 (by decide) (fun c_735 => ?_) (fun c_735 => ?_)
    · refine lv_iload hx hb dL_law_740 (lv_at hl 1 rfl) ?_
      refine zb_if_ne (x := zo_jo S (zs_ix (xs (nI (i + 1)).toNatClampNeg)) (zs_ix (xs (nI (i + 2)).toNatClampNeg))) (tgt := 757) hx hb (by omega) dL_law_742 (by decide) (fun c_742 => ?_) (fun c_742 => ?_)
      · refine zb_goto (tgt := 2168) hx hb dL_law_757 (by decide) ?_
        refine zb_iinc (n := 3) (k := 7) (lv' := [(5, .int (nI (i + 3))), (7, .int r_724), (6, .int (nI (zo_jo S (zs_ix (xs (nI (i + 1)).toNatClampNeg)) (zs_ix (xs (nI (i + 2)).toNatClampNeg))))), (0, .ref bq), (1, .ref (ad2 0 0)), (2, .ref (ad2 14 0)), (3, .ref (ad2 33 0)), (4, .ref (ad2 34 0))]) hx hb dL_law_2168 hl rfl (by decide) (by decide) rfl (fun ls hl => ?_)
        refine zb_goto (tgt := 28) hx hb dL_law_2171 (by decide) ?_
        exact kk _ S _ _ _ _ _ _ _ _ _ hG hS hD2 h62 hy.2 (by omega) (by omega) (lv_sub hl [3, 4, 5, 6, 7, 0] rfl)
      · exact absurd c_742 hc1
    · exact absurd (by rw [hy.1]) c_735

set_option maxRecDepth 100000 in
set_option maxHeartbeats 4000000 in
theorem lq_9 {p : Program} {l : Launch} {e : Env} {s : State} {m : MethodId} {below : List Frame} {meth : Method} {c : Code} {bq b L i : Nat} {xs : Nat → Int32} {E : za_E} (hl0 : l.stackTraces = false) (hL : L ≤ 1536) (C0 : lw_At p s m meth c bq L xs) (hK : za_K E s) (hZ : za_Z b s s.heap) (hAO : va_AO RX2 s) (hb0 : b ≤ s.heap.size) (hbA : ¬ za_A b bq) (hi : i + 3 ≤ L) (kk : zl_at p l e s m below meth c bq b E (i + 3))
    {ad : za_Ad} {S X Y : za_S} {ow : Int64} {dw : UInt64} {H : Heap} {locs : List Loc} {k n : Nat} {ls : Array Slot} (hG : za_G E b (ad, S, X, S, Y, ow, dw) H) (hS : va_S (za_A b) s.heap H locs) (hD : zs_D S X) (h6 : zs_6 S) (hY : zs_B Y) (hk : k ≤ 100 + 2 * i + zs_ce S) (hn : n ≤ 29000 + 14 * i + zs_sl S) (hl : lv_has ls 9 [(0, .ref bq), (1, .ref (ad 0 0)), (2, .ref (ad 14 0)), (3, .ref (ad 33 0)), (4, .ref (ad 34 0)), (5, .int (nI i))]) : W p l e room_1 s m #[Value.ref bq] below meth c H locs k n (lw_Z below #[Value.ref bq] s) (F0 m 760 ls []) := by
  obtain ⟨hx, hb, hr, hml, hown, hts0, hX, hbl, hlocks, hgv⟩ := C0
  have hts : ∀ w ∈ wsL_law, w.before #[Value.ref bq] s = true := fun w h => hts0 w (wsL_law_in w h)
  have hce := zs_ce_le hD.1
  refine lv_aload_n hx hb dL_law_760 rfl (lv_at hl 1 rfl) ?_
  refine lv_aload_n hx hb dL_law_761 rfl (lv_at hl 0 rfl) ?_
  refine lv_iload hx hb dL_law_762 (lv_at hl 5 rfl) ?_
  refine zb_iconst (n := 1) hx hb dL_law_764 (by decide) ?_
  refine zb_iadd hx hb dL_law_765 ?_
  refine va_sld hx hb hX hbl hbA hS (vp_in_nI (by omega) (by omega)) dL_law_766 ?_
  refine lv_aload_n hx hb dL_law_767 rfl (lv_at hl 0 rfl) ?_
  refine lv_iload hx hb dL_law_768 (lv_at hl 5 rfl) ?_
  refine zb_iconst (n := 2) hx hb dL_law_770 (by decide) ?_
  refine zb_iadd hx hb dL_law_771 ?_
  refine va_sld hx hb hX hbl hbA hS (vp_in_nI (by omega) (by omega)) dL_law_772 ?_
  refine lv_aload_n hx hb dL_law_773 rfl (lv_at hl 3 rfl) ?_
  refine zc_LSi (As := [.ref (ad 0 0), .int (xs (nI (i + 1)).toNatClampNeg), .int (xs (nI (i + 2)).toNatClampNeg), .ref (ad 33 0)]) (rest := []) hK hZ hAO hb0 hG hS hx hb hml hown hts (c_L_pin l hl0 (xs (nI (i + 1)).toNatClampNeg) (xs (nI (i + 2)).toNatClampNeg) hD h6) (vx_cwSW 4 hts gL_law_L_pin rfl rfl rfl (by decide +kernel) ⟨Nat.le_of_ble_eq_true rfl, Nat.le_of_ble_eq_true rfl⟩) rfl hl rfl (Nat.le_of_ble_eq_true rfl) dL_law_774 ⟨by show _ ≤ 603072; omega, by show _ ≤ 7207018; omega⟩ (fun r_774 u_774 H locs hp hG hS => ?_)
  obtain ⟨ad2, S2, X2, ow2, rfl, rfl, hsm, hD2, h62, hal⟩ := hp
  have hCb : zo_pin S (zs_ix (xs (nI (i + 1)).toNatClampNeg)) (zs_ix (xs (nI (i + 2)).toNatClampNeg)) < 2 ^ 31 := by
    unfold zo_pin
    repeat' split
    all_goals decide
  rw [← hsm 0 (by omega), ← hsm 14 (by omega), ← hsm 33 (by omega), ← hsm 34 (by omega)] at hl
  refine lv_istore (lv' := [(6, .int (nI (zo_pin S (zs_ix (xs (nI (i + 1)).toNatClampNeg)) (zs_ix (xs (nI (i + 2)).toNatClampNeg))))), (0, .ref bq), (1, .ref (ad2 0 0)), (2, .ref (ad2 14 0)), (3, .ref (ad2 33 0)), (4, .ref (ad2 34 0)), (5, .int (nI i))]) hx hb dL_law_777 hl (by decide) rfl (fun ls hl => ?_)
  refine lv_aload_n hx hb dL_law_779 rfl (lv_at hl 3 rfl) ?_
  refine lv_aload_n hx hb dL_law_780 rfl (lv_at hl 1 rfl) ?_
  refine lv_iload hx hb dL_law_781 (lv_at hl 6 rfl) ?_
  refine zb_iconst (n := 1) hx hb dL_law_783 (by decide) ?_
  refine zb_iadd hx hb dL_law_784 ?_
  refine va_sld hx hb hX hbl hbA hS (vp_in_nI (by omega) (by omega)) dL_law_785 ?_
  refine lv_aload_n hx hb dL_law_786 rfl (lv_at hl 1 rfl) ?_
  refine lv_iload hx hb dL_law_787 (lv_at hl 6 rfl) ?_
  refine zb_iconst (n := 2) hx hb dL_law_789 (by decide) ?_
  refine zb_iadd hx hb dL_law_790 ?_
  refine va_sld hx hb hX hbl hbA hS (vp_in_nI (by omega) (by omega)) dL_law_791 ?_
  refine zc_Vi (As := [.int (xs (nI (i + 1)).toNatClampNeg), .int (xs (nI (i + 2)).toNatClampNeg)]) (rest := []) hK hZ hb0 hG hS hx hb hml hown hts (c_X7_pin l (xs (nI (i + 1)).toNatClampNeg) (xs (nI (i + 2)).toNatClampNeg) (zw_D.M hD h6 hY)) (cwV 2 hts gL_law_X7_pin rfl rfl rfl (by decide +kernel) ⟨Nat.le_of_ble_eq_true rfl, Nat.le_of_ble_eq_true rfl⟩) (za_recv (q := (RX7, TX7, 25)) hK hG 14 0 ⟨by omega, rfl⟩ rfl rfl rfl) rfl hl rfl (Nat.le_of_ble_eq_true rfl) dL_law_792 ⟨by show _ ≤ 603072; omega, by show _ ≤ 7207018; omega⟩ (fun r_792 u_792 H locs hp hG hS => ?_)
  obtain ⟨T2, Y2, rfl, hy, hmo⟩ := hp
  rcases hal with ⟨hc0, h1, h2⟩ | ⟨hc1, h1⟩
  · obtain ⟨-, h3, h4⟩ : zo_pin S (zs_ix (xs (nI (i + 1)).toNatClampNeg)) (zs_ix (xs (nI (i + 2)).toNatClampNeg)) = 0 ∧ T2 = za_P S 1 (zs_ix (xs (nI (i + 1)).toNatClampNeg)) 0 (some (zs_ix (xs (nI (i + 2)).toNatClampNeg))) ∧ r_792 = za_enc (S.2 1 (zs_ix (xs (nI (i + 1)).toNatClampNeg)) 0) := by
      rcases hmo with h | ⟨h, -⟩
      · exact h
      · exact absurd hc0 h
    have hce2 : zs_ce S ≤ zs_ce (za_P S 1 (zs_ix (xs (nI (i + 1)).toNatClampNeg)) 0 (some (zs_ix (xs (nI (i + 2)).toNatClampNeg)))) ∧ zs_sl S ≤ zs_sl (za_P S 1 (zs_ix (xs (nI (i + 1)).toNatClampNeg)) 0 (some (zs_ix (xs (nI (i + 2)).toNatClampNeg)))) := zl_7 rfl
    subst h1
    subst h3
    subst h2
    subst h4
    refine lv_istore (lv' := [(7, .int (za_enc (S.2 1 (zs_ix (xs (nI (i + 1)).toNatClampNeg)) 0))), (6, .int (nI (zo_pin S (zs_ix (xs (nI (i + 1)).toNatClampNeg)) (zs_ix (xs (nI (i + 2)).toNatClampNeg))))), (0, .ref bq), (1, .ref (ad2 0 0)), (2, .ref (ad2 14 0)), (3, .ref (ad2 33 0)), (4, .ref (ad2 34 0)), (5, .int (nI i))]) hx hb dL_law_795 hl (by decide) rfl (fun ls hl => ?_)
    refine lv_aload_n hx hb dL_law_797 rfl (lv_at hl 4 rfl) ?_
    refine zc_Vi (As := []) (rest := []) hK hZ hb0 hG hS hx hb hml hown hts (c_X7_thrown l ) (cwV 0 hts gL_law_X7_thrown rfl rfl rfl (by decide +kernel) ⟨Nat.le_of_ble_eq_true rfl, Nat.le_of_ble_eq_true rfl⟩) (za_recv (q := (RX7, TX7, 25)) hK hG 14 0 ⟨by omega, rfl⟩ rfl rfl rfl) rfl hl rfl (Nat.le_of_ble_eq_true rfl) dL_law_798 ⟨by show _ ≤ 603072; omega, by show _ ≤ 7207018; omega⟩ (fun r_798 u_798 H locs hp hG hS => ?_)
    obtain ⟨rfl, rfl⟩ := hp
    refine lv_iload hx hb dL_law_801 (lv_at hl 1 rfl) ?_
    refine lv_icmp_eq (tgt := 808) hx hb dL_law_803 (by decide) (fun c_803 => ?_) (fun c_803 => ?_)
    · refine lv_iload hx hb dL_law_808 (lv_at hl 1 rfl) ?_
      refine zb_if_ne (x := zo_pin S (zs_ix (xs (nI (i + 1)).toNatClampNeg)) (zs_ix (xs (nI (i + 2)).toNatClampNeg))) (tgt := 825) hx hb (by omega) dL_law_810 (by decide) (fun c_810 => ?_) (fun c_810 => ?_)
      · exact absurd hc0 c_810
      · refine lv_aload_n hx hb dL_law_813 rfl (lv_at hl 5 rfl) ?_
        refine zb_iconst (n := 0) hx hb dL_law_814 (by decide) ?_
        refine zld_OL hx hb hK hG (by omega) rfl dL_law_815 ?_
        refine lv_iload hx hb dL_law_816 (lv_at hl 0 rfl) ?_
        refine lv_i2l hx hb dL_law_818 rfl ?_
        refine W.lcmp hx hb dL_law_819 ?_
        refine lv_if_eq (tgt := 825) hx hb dL_law_820 (by decide) (fun c_820 => ?_) (fun c_820 => ?_)
        · refine zb_goto (tgt := 2168) hx hb dL_law_825 (by decide) ?_
          refine zb_iinc (n := 3) (k := 7) (lv' := [(5, .int (nI (i + 3))), (7, .int (za_enc (S.2 1 (zs_ix (xs (nI (i + 1)).toNatClampNeg)) 0))), (6, .int (nI (zo_pin S (zs_ix (xs (nI (i + 1)).toNatClampNeg)) (zs_ix (xs (nI (i + 2)).toNatClampNeg))))), (0, .ref bq), (1, .ref (ad2 0 0)), (2, .ref (ad2 14 0)), (3, .ref (ad2 33 0)), (4, .ref (ad2 34 0))]) hx hb dL_law_2168 hl rfl (by decide) (by decide) rfl (fun ls hl => ?_)
          refine zb_goto (tgt := 28) hx hb dL_law_2171 (by decide) ?_
          have hcf := hce2
          exact kk _ (za_P S 1 (zs_ix (xs (nI (i + 1)).toNatClampNeg)) 0 (some (zs_ix (xs (nI (i + 2)).toNatClampNeg)))) _ _ _ _ _ _ _ _ _ hG hS hD2 h62 hy.2 (by omega) (by omega) (lv_sub hl [3, 4, 5, 6, 7, 0] rfl)
        · exact absurd (zl_self _) c_820
    · exact absurd (by rw [hy.1]) c_803
  · have h3 : T2 = S := by
      rcases hmo with ⟨h, -⟩ | ⟨-, h⟩
      · exact absurd h hc1
      · exact h
    obtain rfl : S = S2 := h1.symm
    obtain rfl : S = T2 := h3.symm
    refine lv_istore (lv' := [(7, .int r_792), (6, .int (nI (zo_pin S (zs_ix (xs (nI (i + 1)).toNatClampNeg)) (zs_ix (xs (nI (i + 2)).toNatClampNeg))))), (0, .ref bq), (1, .ref (ad2 0 0)), (2, .ref (ad2 14 0)), (3, .ref (ad2 33 0)), (4, .ref (ad2 34 0)), (5, .int (nI i))]) hx hb dL_law_795 hl (by decide) rfl (fun ls hl => ?_)
    refine lv_aload_n hx hb dL_law_797 rfl (lv_at hl 4 rfl) ?_
    refine zc_Vi (As := []) (rest := []) hK hZ hb0 hG hS hx hb hml hown hts (c_X7_thrown l ) (cwV 0 hts gL_law_X7_thrown rfl rfl rfl (by decide +kernel) ⟨Nat.le_of_ble_eq_true rfl, Nat.le_of_ble_eq_true rfl⟩) (za_recv (q := (RX7, TX7, 25)) hK hG 14 0 ⟨by omega, rfl⟩ rfl rfl rfl) rfl hl rfl (Nat.le_of_ble_eq_true rfl) dL_law_798 ⟨by show _ ≤ 603072; omega, by show _ ≤ 7207018; omega⟩ (fun r_798 u_798 H locs hp hG hS => ?_)
    obtain ⟨rfl, rfl⟩ := hp
    refine lv_iload hx hb dL_law_801 (lv_at hl 1 rfl) ?_
    refine lv_icmp_eq (tgt := 808) hx hb dL_law_803 (by decide) (fun c_803 => ?_) (fun c_803 => ?_)
    · refine lv_iload hx hb dL_law_808 (lv_at hl 1 rfl) ?_
      refine zb_if_ne (x := zo_pin S (zs_ix (xs (nI (i + 1)).toNatClampNeg)) (zs_ix (xs (nI (i + 2)).toNatClampNeg))) (tgt := 825) hx hb (by omega) dL_law_810 (by decide) (fun c_810 => ?_) (fun c_810 => ?_)
      · refine zb_goto (tgt := 2168) hx hb dL_law_825 (by decide) ?_
        refine zb_iinc (n := 3) (k := 7) (lv' := [(5, .int (nI (i + 3))), (7, .int r_792), (6, .int (nI (zo_pin S (zs_ix (xs (nI (i + 1)).toNatClampNeg)) (zs_ix (xs (nI (i + 2)).toNatClampNeg))))), (0, .ref bq), (1, .ref (ad2 0 0)), (2, .ref (ad2 14 0)), (3, .ref (ad2 33 0)), (4, .ref (ad2 34 0))]) hx hb dL_law_2168 hl rfl (by decide) (by decide) rfl (fun ls hl => ?_)
        refine zb_goto (tgt := 28) hx hb dL_law_2171 (by decide) ?_
        exact kk _ S _ _ _ _ _ _ _ _ _ hG hS hD2 h62 hy.2 (by omega) (by omega) (lv_sub hl [3, 4, 5, 6, 7, 0] rfl)
      · exact absurd c_810 hc1
    · exact absurd (by rw [hy.1]) c_803

set_option maxRecDepth 100000 in
set_option maxHeartbeats 4000000 in
theorem lq_10 {p : Program} {l : Launch} {e : Env} {s : State} {m : MethodId} {below : List Frame} {meth : Method} {c : Code} {bq b L i : Nat} {xs : Nat → Int32} {E : za_E} (hl0 : l.stackTraces = false) (hL : L ≤ 1536) (C0 : lw_At p s m meth c bq L xs) (hK : za_K E s) (hZ : za_Z b s s.heap) (hAO : va_AO RX2 s) (hb0 : b ≤ s.heap.size) (hbA : ¬ za_A b bq) (hi : i + 3 ≤ L) (kk : zl_at p l e s m below meth c bq b E (i + 3))
    {ad : za_Ad} {S X Y : za_S} {ow : Int64} {dw : UInt64} {H : Heap} {locs : List Loc} {k n : Nat} {ls : Array Slot} (hG : za_G E b (ad, S, X, S, Y, ow, dw) H) (hS : va_S (za_A b) s.heap H locs) (hD : zs_D S X) (h6 : zs_6 S) (hY : zs_B Y) (hk : k ≤ 100 + 2 * i + zs_ce S) (hn : n ≤ 29000 + 14 * i + zs_sl S) (hl : lv_has ls 9 [(0, .ref bq), (1, .ref (ad 0 0)), (2, .ref (ad 14 0)), (3, .ref (ad 33 0)), (4, .ref (ad 34 0)), (5, .int (nI i))]) : W p l e room_1 s m #[Value.ref bq] below meth c H locs k n (lw_Z below #[Value.ref bq] s) (F0 m 828 ls []) := by
  obtain ⟨hx, hb, hr, hml, hown, hts0, hX, hbl, hlocks, hgv⟩ := C0
  have hts : ∀ w ∈ wsL_law, w.before #[Value.ref bq] s = true := fun w h => hts0 w (wsL_law_in w h)
  have hce := zs_ce_le hD.1
  refine lv_aload_n hx hb dL_law_828 rfl (lv_at hl 1 rfl) ?_
  refine lv_aload_n hx hb dL_law_829 rfl (lv_at hl 0 rfl) ?_
  refine lv_iload hx hb dL_law_830 (lv_at hl 5 rfl) ?_
  refine zb_iconst (n := 1) hx hb dL_law_832 (by decide) ?_
  refine zb_iadd hx hb dL_law_833 ?_
  refine va_sld hx hb hX hbl hbA hS (vp_in_nI (by omega) (by omega)) dL_law_834 ?_
  refine lv_aload_n hx hb dL_law_835 rfl (lv_at hl 3 rfl) ?_
  refine zc_LSi (As := [.ref (ad 0 0), .int (xs (nI (i + 1)).toNatClampNeg), .ref (ad 33 0)]) (rest := []) hK hZ hAO hb0 hG hS hx hb hml hown hts (c_L_unpin l hl0 (xs (nI (i + 1)).toNatClampNeg) hD h6) (vx_cwSW 3 hts gL_law_L_unpin rfl rfl rfl (by decide +kernel) ⟨Nat.le_of_ble_eq_true rfl, Nat.le_of_ble_eq_true rfl⟩) rfl hl rfl (Nat.le_of_ble_eq_true rfl) dL_law_836 ⟨by show _ ≤ 603072; omega, by show _ ≤ 7207018; omega⟩ (fun r_836 u_836 H locs hp hG hS => ?_)
  obtain ⟨ad2, S2, X2, ow2, rfl, rfl, hsm, hD2, h62, hal⟩ := hp
  have hCb : zo_po S (zs_ix (xs (nI (i + 1)).toNatClampNeg)) 1 < 2 ^ 31 := by
    unfold zo_po
    repeat' split
    all_goals decide
  rw [← hsm 0 (by omega), ← hsm 14 (by omega), ← hsm 33 (by omega), ← hsm 34 (by omega)] at hl
  refine lv_istore (lv' := [(6, .int (nI (zo_po S (zs_ix (xs (nI (i + 1)).toNatClampNeg)) 1))), (0, .ref bq), (1, .ref (ad2 0 0)), (2, .ref (ad2 14 0)), (3, .ref (ad2 33 0)), (4, .ref (ad2 34 0)), (5, .int (nI i))]) hx hb dL_law_839 hl (by decide) rfl (fun ls hl => ?_)
  refine lv_aload_n hx hb dL_law_841 rfl (lv_at hl 3 rfl) ?_
  refine lv_aload_n hx hb dL_law_842 rfl (lv_at hl 1 rfl) ?_
  refine lv_iload hx hb dL_law_843 (lv_at hl 6 rfl) ?_
  refine zb_iconst (n := 1) hx hb dL_law_845 (by decide) ?_
  refine zb_iadd hx hb dL_law_846 ?_
  refine va_sld hx hb hX hbl hbA hS (vp_in_nI (by omega) (by omega)) dL_law_847 ?_
  refine zc_Vi (As := [.int (xs (nI (i + 1)).toNatClampNeg)]) (rest := []) hK hZ hb0 hG hS hx hb hml hown hts (c_X7_unpin l (xs (nI (i + 1)).toNatClampNeg) (zw_D.M hD h6 hY)) (cwV 1 hts gL_law_X7_unpin rfl rfl rfl (by decide +kernel) ⟨Nat.le_of_ble_eq_true rfl, Nat.le_of_ble_eq_true rfl⟩) (za_recv (q := (RX7, TX7, 25)) hK hG 14 0 ⟨by omega, rfl⟩ rfl rfl rfl) rfl hl rfl (Nat.le_of_ble_eq_true rfl) dL_law_848 ⟨by show _ ≤ 603072; omega, by show _ ≤ 7207018; omega⟩ (fun r_848 u_848 H locs hp hG hS => ?_)
  obtain ⟨T2, Y2, rfl, hy, hmo⟩ := hp
  rcases hal with ⟨hc0, h1, h2⟩ | ⟨hc1, h1⟩
  · obtain ⟨-, h3, h4⟩ : zo_po S (zs_ix (xs (nI (i + 1)).toNatClampNeg)) 1 = 0 ∧ T2 = za_P S 1 (zs_ix (xs (nI (i + 1)).toNatClampNeg)) 0 none ∧ r_848 = nI ((S.2 1 (zs_ix (xs (nI (i + 1)).toNatClampNeg)) 0).getD 0) := by
      rcases hmo with h | ⟨h, -⟩
      · exact h
      · exact absurd hc0 h
    have hce2 : zs_ce S ≤ zs_ce (za_P S 1 (zs_ix (xs (nI (i + 1)).toNatClampNeg)) 0 none) ∧ zs_sl S ≤ zs_sl (za_P S 1 (zs_ix (xs (nI (i + 1)).toNatClampNeg)) 0 none) := zl_7 rfl
    subst h1
    subst h3
    subst h2
    subst h4
    refine lv_istore (lv' := [(7, .int (nI ((S.2 1 (zs_ix (xs (nI (i + 1)).toNatClampNeg)) 0).getD 0))), (6, .int (nI (zo_po S (zs_ix (xs (nI (i + 1)).toNatClampNeg)) 1))), (0, .ref bq), (1, .ref (ad2 0 0)), (2, .ref (ad2 14 0)), (3, .ref (ad2 33 0)), (4, .ref (ad2 34 0)), (5, .int (nI i))]) hx hb dL_law_851 hl (by decide) rfl (fun ls hl => ?_)
    refine lv_aload_n hx hb dL_law_853 rfl (lv_at hl 4 rfl) ?_
    refine zc_Vi (As := []) (rest := []) hK hZ hb0 hG hS hx hb hml hown hts (c_X7_thrown l ) (cwV 0 hts gL_law_X7_thrown rfl rfl rfl (by decide +kernel) ⟨Nat.le_of_ble_eq_true rfl, Nat.le_of_ble_eq_true rfl⟩) (za_recv (q := (RX7, TX7, 25)) hK hG 14 0 ⟨by omega, rfl⟩ rfl rfl rfl) rfl hl rfl (Nat.le_of_ble_eq_true rfl) dL_law_854 ⟨by show _ ≤ 603072; omega, by show _ ≤ 7207018; omega⟩ (fun r_854 u_854 H locs hp hG hS => ?_)
    obtain ⟨rfl, rfl⟩ := hp
    refine lv_iload hx hb dL_law_857 (lv_at hl 1 rfl) ?_
    refine lv_icmp_eq (tgt := 864) hx hb dL_law_859 (by decide) (fun c_859 => ?_) (fun c_859 => ?_)
    · refine lv_iload hx hb dL_law_864 (lv_at hl 1 rfl) ?_
      refine zb_if_ne (x := zo_po S (zs_ix (xs (nI (i + 1)).toNatClampNeg)) 1) (tgt := 881) hx hb (by omega) dL_law_866 (by decide) (fun c_866 => ?_) (fun c_866 => ?_)
      · exact absurd hc0 c_866
      · refine lv_aload_n hx hb dL_law_869 rfl (lv_at hl 5 rfl) ?_
        refine zb_iconst (n := 0) hx hb dL_law_870 (by decide) ?_
        refine zld_OL hx hb hK hG (by omega) rfl dL_law_871 ?_
        refine lv_iload hx hb dL_law_872 (lv_at hl 0 rfl) ?_
        refine lv_i2l hx hb dL_law_874 rfl ?_
        refine W.lcmp hx hb dL_law_875 ?_
        refine lv_if_eq (tgt := 881) hx hb dL_law_876 (by decide) (fun c_876 => ?_) (fun c_876 => ?_)
        · refine zb_goto (tgt := 2168) hx hb dL_law_881 (by decide) ?_
          refine zb_iinc (n := 3) (k := 7) (lv' := [(5, .int (nI (i + 3))), (7, .int (nI ((S.2 1 (zs_ix (xs (nI (i + 1)).toNatClampNeg)) 0).getD 0))), (6, .int (nI (zo_po S (zs_ix (xs (nI (i + 1)).toNatClampNeg)) 1))), (0, .ref bq), (1, .ref (ad2 0 0)), (2, .ref (ad2 14 0)), (3, .ref (ad2 33 0)), (4, .ref (ad2 34 0))]) hx hb dL_law_2168 hl rfl (by decide) (by decide) rfl (fun ls hl => ?_)
          refine zb_goto (tgt := 28) hx hb dL_law_2171 (by decide) ?_
          have hcf := hce2
          exact kk _ (za_P S 1 (zs_ix (xs (nI (i + 1)).toNatClampNeg)) 0 none) _ _ _ _ _ _ _ _ _ hG hS hD2 h62 hy.2 (by omega) (by omega) (lv_sub hl [3, 4, 5, 6, 7, 0] rfl)
        · exact absurd (zl_self _) c_876
    · exact absurd (by rw [hy.1]) c_859
  · have h3 : T2 = S := by
      rcases hmo with ⟨h, -⟩ | ⟨-, h⟩
      · exact absurd h hc1
      · exact h
    obtain rfl : S = S2 := h1.symm
    obtain rfl : S = T2 := h3.symm
    refine lv_istore (lv' := [(7, .int r_848), (6, .int (nI (zo_po S (zs_ix (xs (nI (i + 1)).toNatClampNeg)) 1))), (0, .ref bq), (1, .ref (ad2 0 0)), (2, .ref (ad2 14 0)), (3, .ref (ad2 33 0)), (4, .ref (ad2 34 0)), (5, .int (nI i))]) hx hb dL_law_851 hl (by decide) rfl (fun ls hl => ?_)
    refine lv_aload_n hx hb dL_law_853 rfl (lv_at hl 4 rfl) ?_
    refine zc_Vi (As := []) (rest := []) hK hZ hb0 hG hS hx hb hml hown hts (c_X7_thrown l ) (cwV 0 hts gL_law_X7_thrown rfl rfl rfl (by decide +kernel) ⟨Nat.le_of_ble_eq_true rfl, Nat.le_of_ble_eq_true rfl⟩) (za_recv (q := (RX7, TX7, 25)) hK hG 14 0 ⟨by omega, rfl⟩ rfl rfl rfl) rfl hl rfl (Nat.le_of_ble_eq_true rfl) dL_law_854 ⟨by show _ ≤ 603072; omega, by show _ ≤ 7207018; omega⟩ (fun r_854 u_854 H locs hp hG hS => ?_)
    obtain ⟨rfl, rfl⟩ := hp
    refine lv_iload hx hb dL_law_857 (lv_at hl 1 rfl) ?_
    refine lv_icmp_eq (tgt := 864) hx hb dL_law_859 (by decide) (fun c_859 => ?_) (fun c_859 => ?_)
    · refine lv_iload hx hb dL_law_864 (lv_at hl 1 rfl) ?_
      refine zb_if_ne (x := zo_po S (zs_ix (xs (nI (i + 1)).toNatClampNeg)) 1) (tgt := 881) hx hb (by omega) dL_law_866 (by decide) (fun c_866 => ?_) (fun c_866 => ?_)
      · refine zb_goto (tgt := 2168) hx hb dL_law_881 (by decide) ?_
        refine zb_iinc (n := 3) (k := 7) (lv' := [(5, .int (nI (i + 3))), (7, .int r_848), (6, .int (nI (zo_po S (zs_ix (xs (nI (i + 1)).toNatClampNeg)) 1))), (0, .ref bq), (1, .ref (ad2 0 0)), (2, .ref (ad2 14 0)), (3, .ref (ad2 33 0)), (4, .ref (ad2 34 0))]) hx hb dL_law_2168 hl rfl (by decide) (by decide) rfl (fun ls hl => ?_)
        refine zb_goto (tgt := 28) hx hb dL_law_2171 (by decide) ?_
        exact kk _ S _ _ _ _ _ _ _ _ _ hG hS hD2 h62 hy.2 (by omega) (by omega) (lv_sub hl [3, 4, 5, 6, 7, 0] rfl)
      · exact absurd c_866 hc1
    · exact absurd (by rw [hy.1]) c_859

set_option maxRecDepth 100000 in
set_option maxHeartbeats 4000000 in
theorem lq_11 {p : Program} {l : Launch} {e : Env} {s : State} {m : MethodId} {below : List Frame} {meth : Method} {c : Code} {bq b L i : Nat} {xs : Nat → Int32} {E : za_E} (hl0 : l.stackTraces = false) (hL : L ≤ 1536) (C0 : lw_At p s m meth c bq L xs) (hK : za_K E s) (hZ : za_Z b s s.heap) (hAO : va_AO RX2 s) (hb0 : b ≤ s.heap.size) (hbA : ¬ za_A b bq) (hi : i + 3 ≤ L) (kk : zl_at p l e s m below meth c bq b E (i + 3))
    {ad : za_Ad} {S X Y : za_S} {ow : Int64} {dw : UInt64} {H : Heap} {locs : List Loc} {k n : Nat} {ls : Array Slot} (hG : za_G E b (ad, S, X, S, Y, ow, dw) H) (hS : va_S (za_A b) s.heap H locs) (hD : zs_D S X) (h6 : zs_6 S) (hY : zs_B Y) (hk : k ≤ 100 + 2 * i + zs_ce S) (hn : n ≤ 29000 + 14 * i + zs_sl S) (hl : lv_has ls 9 [(0, .ref bq), (1, .ref (ad 0 0)), (2, .ref (ad 14 0)), (3, .ref (ad 33 0)), (4, .ref (ad 34 0)), (5, .int (nI i))]) : W p l e room_1 s m #[Value.ref bq] below meth c H locs k n (lw_Z below #[Value.ref bq] s) (F0 m 884 ls []) := by
  obtain ⟨hx, hb, hr, hml, hown, hts0, hX, hbl, hlocks, hgv⟩ := C0
  have hts : ∀ w ∈ wsL_law, w.before #[Value.ref bq] s = true := fun w h => hts0 w (wsL_law_in w h)
  have hce := zs_ce_le hD.1
  refine lv_aload_n hx hb dL_law_884 rfl (lv_at hl 1 rfl) ?_
  refine zc_Vi (As := []) (rest := []) hK hZ hb0 hG hS hx hb hml hown hts (c_X6_people l hD.C) (cwV 0 hts gL_law_X6_people rfl rfl rfl (by decide +kernel) ⟨Nat.le_of_ble_eq_true rfl, Nat.le_of_ble_eq_true rfl⟩) (za_recv (q := (RX6, TX6, 11)) hK hG 0 0 ⟨by omega, rfl⟩ rfl rfl rfl) rfl hl rfl (Nat.le_of_ble_eq_true rfl) dL_law_885 ⟨by show _ ≤ 603072; omega, by show _ ≤ 7207018; omega⟩ (fun r_885 u_885 H locs hp hG hS => ?_)
  obtain ⟨rfl, rfl⟩ := hp
  refine lv_aload_n hx hb dL_law_888 rfl (lv_at hl 2 rfl) ?_
  refine zc_Vi (As := []) (rest := [.int (nI (S.1 0 0 0))]) hK hZ hb0 hG hS hx hb hml hown hts (c_X7_people l (zw_D.M hD h6 hY)) (cwV 0 hts gL_law_X7_people rfl rfl rfl (by decide +kernel) ⟨Nat.le_of_ble_eq_true rfl, Nat.le_of_ble_eq_true rfl⟩) (za_recv (q := (RX7, TX7, 25)) hK hG 14 0 ⟨by omega, rfl⟩ rfl rfl rfl) rfl hl rfl (Nat.le_of_ble_eq_true rfl) dL_law_889 ⟨by show _ ≤ 603072; omega, by show _ ≤ 7207018; omega⟩ (fun r_889 u_889 H locs hp hG hS => ?_)
  obtain ⟨T2, Y2, rfl, hy, hmo⟩ := hp
  obtain ⟨h1, h2⟩ : T2 = S ∧ r_889 = nI (S.1 0 0 0) := by
    rcases hmo with h | ⟨h, -⟩
    · exact h.2
    · exact absurd rfl h
  obtain rfl : S = T2 := h1.symm
  subst h2
  refine lv_icmp_eq (tgt := 2168) hx hb dL_law_892 (by decide) (fun c_892 => ?_) (fun c_892 => ?_)
  · refine zb_iinc (n := 3) (k := 5) (lv' := [(5, .int (nI (i + 3))), (0, .ref bq), (1, .ref (ad 0 0)), (2, .ref (ad 14 0)), (3, .ref (ad 33 0)), (4, .ref (ad 34 0))]) hx hb dL_law_2168 hl rfl (by decide) (by decide) rfl (fun ls hl => ?_)
    refine zb_goto (tgt := 28) hx hb dL_law_2171 (by decide) ?_
    exact kk _ S _ _ _ _ _ _ _ _ _ hG hS hD h6 hy.2 (by omega) (by omega) (lv_sub hl [1, 2, 3, 4, 5, 0] rfl)
  · exact absurd rfl c_892

set_option maxRecDepth 100000 in
set_option maxHeartbeats 4000000 in
theorem lq_12 {p : Program} {l : Launch} {e : Env} {s : State} {m : MethodId} {below : List Frame} {meth : Method} {c : Code} {bq b L i : Nat} {xs : Nat → Int32} {E : za_E} (hl0 : l.stackTraces = false) (hL : L ≤ 1536) (C0 : lw_At p s m meth c bq L xs) (hK : za_K E s) (hZ : za_Z b s s.heap) (hAO : va_AO RX2 s) (hb0 : b ≤ s.heap.size) (hbA : ¬ za_A b bq) (hi : i + 3 ≤ L) (kk : zl_at p l e s m below meth c bq b E (i + 3))
    {ad : za_Ad} {S X Y : za_S} {ow : Int64} {dw : UInt64} {H : Heap} {locs : List Loc} {k n : Nat} {ls : Array Slot} (hG : za_G E b (ad, S, X, S, Y, ow, dw) H) (hS : va_S (za_A b) s.heap H locs) (hD : zs_D S X) (h6 : zs_6 S) (hY : zs_B Y) (hk : k ≤ 100 + 2 * i + zs_ce S) (hn : n ≤ 29000 + 14 * i + zs_sl S) (hl : lv_has ls 9 [(0, .ref bq), (1, .ref (ad 0 0)), (2, .ref (ad 14 0)), (3, .ref (ad 33 0)), (4, .ref (ad 34 0)), (5, .int (nI i))]) : W p l e room_1 s m #[Value.ref bq] below meth c H locs k n (lw_Z below #[Value.ref bq] s) (F0 m 897 ls []) := by
  obtain ⟨hx, hb, hr, hml, hown, hts0, hX, hbl, hlocks, hgv⟩ := C0
  have hts : ∀ w ∈ wsL_law, w.before #[Value.ref bq] s = true := fun w h => hts0 w (wsL_law_in w h)
  have hce := zs_ce_le hD.1
  refine lv_aload_n hx hb dL_law_897 rfl (lv_at hl 1 rfl) ?_
  refine zc_Vi (As := []) (rest := []) hK hZ hb0 hG hS hx hb hml hown hts (c_X6_rooms l hD.C) (cwV 0 hts gL_law_X6_rooms rfl rfl rfl (by decide +kernel) ⟨Nat.le_of_ble_eq_true rfl, Nat.le_of_ble_eq_true rfl⟩) (za_recv (q := (RX6, TX6, 11)) hK hG 0 0 ⟨by omega, rfl⟩ rfl rfl rfl) rfl hl rfl (Nat.le_of_ble_eq_true rfl) dL_law_898 ⟨by show _ ≤ 603072; omega, by show _ ≤ 7207018; omega⟩ (fun r_898 u_898 H locs hp hG hS => ?_)
  obtain ⟨rfl, rfl⟩ := hp
  refine lv_aload_n hx hb dL_law_901 rfl (lv_at hl 2 rfl) ?_
  refine zc_Vi (As := []) (rest := [.int (nI (S.1 0 1 0))]) hK hZ hb0 hG hS hx hb hml hown hts (c_X7_rooms l (zw_D.M hD h6 hY)) (cwV 0 hts gL_law_X7_rooms rfl rfl rfl (by decide +kernel) ⟨Nat.le_of_ble_eq_true rfl, Nat.le_of_ble_eq_true rfl⟩) (za_recv (q := (RX7, TX7, 25)) hK hG 14 0 ⟨by omega, rfl⟩ rfl rfl rfl) rfl hl rfl (Nat.le_of_ble_eq_true rfl) dL_law_902 ⟨by show _ ≤ 603072; omega, by show _ ≤ 7207018; omega⟩ (fun r_902 u_902 H locs hp hG hS => ?_)
  obtain ⟨T2, Y2, rfl, hy, hmo⟩ := hp
  obtain ⟨h1, h2⟩ : T2 = S ∧ r_902 = nI (S.1 0 1 0) := by
    rcases hmo with h | ⟨h, -⟩
    · exact h.2
    · exact absurd rfl h
  obtain rfl : S = T2 := h1.symm
  subst h2
  refine lv_icmp_eq (tgt := 2168) hx hb dL_law_905 (by decide) (fun c_905 => ?_) (fun c_905 => ?_)
  · refine zb_iinc (n := 3) (k := 5) (lv' := [(5, .int (nI (i + 3))), (0, .ref bq), (1, .ref (ad 0 0)), (2, .ref (ad 14 0)), (3, .ref (ad 33 0)), (4, .ref (ad 34 0))]) hx hb dL_law_2168 hl rfl (by decide) (by decide) rfl (fun ls hl => ?_)
    refine zb_goto (tgt := 28) hx hb dL_law_2171 (by decide) ?_
    exact kk _ S _ _ _ _ _ _ _ _ _ hG hS hD h6 hy.2 (by omega) (by omega) (lv_sub hl [1, 2, 3, 4, 5, 0] rfl)
  · exact absurd rfl c_905

set_option maxRecDepth 100000 in
set_option maxHeartbeats 4000000 in
theorem lq_13 {p : Program} {l : Launch} {e : Env} {s : State} {m : MethodId} {below : List Frame} {meth : Method} {c : Code} {bq b L i : Nat} {xs : Nat → Int32} {E : za_E} (hl0 : l.stackTraces = false) (hL : L ≤ 1536) (C0 : lw_At p s m meth c bq L xs) (hK : za_K E s) (hZ : za_Z b s s.heap) (hAO : va_AO RX2 s) (hb0 : b ≤ s.heap.size) (hbA : ¬ za_A b bq) (hi : i + 3 ≤ L) (kk : zl_at p l e s m below meth c bq b E (i + 3))
    {ad : za_Ad} {S X Y : za_S} {ow : Int64} {dw : UInt64} {H : Heap} {locs : List Loc} {k n : Nat} {ls : Array Slot} (hG : za_G E b (ad, S, X, S, Y, ow, dw) H) (hS : va_S (za_A b) s.heap H locs) (hD : zs_D S X) (h6 : zs_6 S) (hY : zs_B Y) (hk : k ≤ 100 + 2 * i + zs_ce S) (hn : n ≤ 29000 + 14 * i + zs_sl S) (hl : lv_has ls 9 [(0, .ref bq), (1, .ref (ad 0 0)), (2, .ref (ad 14 0)), (3, .ref (ad 33 0)), (4, .ref (ad 34 0)), (5, .int (nI i))]) : W p l e room_1 s m #[Value.ref bq] below meth c H locs k n (lw_Z below #[Value.ref bq] s) (F0 m 910 ls []) := by
  obtain ⟨hx, hb, hr, hml, hown, hts0, hX, hbl, hlocks, hgv⟩ := C0
  have hts : ∀ w ∈ wsL_law, w.before #[Value.ref bq] s = true := fun w h => hts0 w (wsL_law_in w h)
  have hce := zs_ce_le hD.1
  refine lv_aload_n hx hb dL_law_910 rfl (lv_at hl 1 rfl) ?_
  refine lv_aload_n hx hb dL_law_911 rfl (lv_at hl 0 rfl) ?_
  refine lv_iload hx hb dL_law_912 (lv_at hl 5 rfl) ?_
  refine zb_iconst (n := 1) hx hb dL_law_914 (by decide) ?_
  refine zb_iadd hx hb dL_law_915 ?_
  refine va_sld hx hb hX hbl hbA hS (vp_in_nI (by omega) (by omega)) dL_law_916 ?_
  refine lv_aload_n hx hb dL_law_917 rfl (lv_at hl 3 rfl) ?_
  refine zc_LSi (As := [.ref (ad 0 0), .int (xs (nI (i + 1)).toNatClampNeg), .ref (ad 33 0)]) (rest := []) hK hZ hAO hb0 hG hS hx hb hml hown hts (c_L_roomOf l hl0 (xs (nI (i + 1)).toNatClampNeg) hD h6) (vx_cwSW 3 hts gL_law_L_roomOf rfl rfl rfl (by decide +kernel) ⟨Nat.le_of_ble_eq_true rfl, Nat.le_of_ble_eq_true rfl⟩) rfl hl rfl (Nat.le_of_ble_eq_true rfl) dL_law_918 ⟨by show _ ≤ 603072; omega, by show _ ≤ 7207018; omega⟩ (fun r_918 u_918 H locs hp hG hS => ?_)
  obtain ⟨ad2, S2, X2, ow2, rfl, rfl, hsm, hD2, h62, hal⟩ := hp
  have hCb : zo_po S (zs_ix (xs (nI (i + 1)).toNatClampNeg)) 0 < 2 ^ 31 := by
    unfold zo_po
    repeat' split
    all_goals decide
  rw [← hsm 0 (by omega), ← hsm 14 (by omega), ← hsm 33 (by omega), ← hsm 34 (by omega)] at hl
  refine lv_istore (lv' := [(6, .int (nI (zo_po S (zs_ix (xs (nI (i + 1)).toNatClampNeg)) 0))), (0, .ref bq), (1, .ref (ad2 0 0)), (2, .ref (ad2 14 0)), (3, .ref (ad2 33 0)), (4, .ref (ad2 34 0)), (5, .int (nI i))]) hx hb dL_law_921 hl (by decide) rfl (fun ls hl => ?_)
  refine lv_aload_n hx hb dL_law_923 rfl (lv_at hl 3 rfl) ?_
  refine lv_aload_n hx hb dL_law_924 rfl (lv_at hl 1 rfl) ?_
  refine lv_iload hx hb dL_law_925 (lv_at hl 6 rfl) ?_
  refine zb_iconst (n := 1) hx hb dL_law_927 (by decide) ?_
  refine zb_iadd hx hb dL_law_928 ?_
  refine va_sld hx hb hX hbl hbA hS (vp_in_nI (by omega) (by omega)) dL_law_929 ?_
  refine zc_Vi (As := [.int (xs (nI (i + 1)).toNatClampNeg)]) (rest := []) hK hZ hb0 hG hS hx hb hml hown hts (c_X7_roomOf l (xs (nI (i + 1)).toNatClampNeg) (zw_D.M hD h6 hY)) (cwV 1 hts gL_law_X7_roomOf rfl rfl rfl (by decide +kernel) ⟨Nat.le_of_ble_eq_true rfl, Nat.le_of_ble_eq_true rfl⟩) (za_recv (q := (RX7, TX7, 25)) hK hG 14 0 ⟨by omega, rfl⟩ rfl rfl rfl) rfl hl rfl (Nat.le_of_ble_eq_true rfl) dL_law_930 ⟨by show _ ≤ 603072; omega, by show _ ≤ 7207018; omega⟩ (fun r_930 u_930 H locs hp hG hS => ?_)
  obtain ⟨T2, Y2, rfl, hy, hmo⟩ := hp
  rcases hal with ⟨hc0, h1, h2⟩ | ⟨hc1, h1⟩
  · obtain ⟨-, h3, h4⟩ : zo_po S (zs_ix (xs (nI (i + 1)).toNatClampNeg)) 0 = 0 ∧ T2 = S ∧ r_930 = nI ((S.2 0 (zs_ix (xs (nI (i + 1)).toNatClampNeg)) 0).getD 0) := by
      rcases hmo with h | ⟨h, -⟩
      · exact h
      · exact absurd hc0 h
    have hce2 : zs_ce S ≤ zs_ce S ∧ zs_sl S ≤ zs_sl S := ⟨Nat.le_refl _, Nat.le_refl _⟩
    obtain rfl : S = S2 := h1.symm
    obtain rfl : S = T2 := h3.symm
    subst h2
    subst h4
    refine lv_istore (lv' := [(7, .int (nI ((S.2 0 (zs_ix (xs (nI (i + 1)).toNatClampNeg)) 0).getD 0))), (6, .int (nI (zo_po S (zs_ix (xs (nI (i + 1)).toNatClampNeg)) 0))), (0, .ref bq), (1, .ref (ad2 0 0)), (2, .ref (ad2 14 0)), (3, .ref (ad2 33 0)), (4, .ref (ad2 34 0)), (5, .int (nI i))]) hx hb dL_law_933 hl (by decide) rfl (fun ls hl => ?_)
    refine lv_aload_n hx hb dL_law_935 rfl (lv_at hl 4 rfl) ?_
    refine zc_Vi (As := []) (rest := []) hK hZ hb0 hG hS hx hb hml hown hts (c_X7_thrown l ) (cwV 0 hts gL_law_X7_thrown rfl rfl rfl (by decide +kernel) ⟨Nat.le_of_ble_eq_true rfl, Nat.le_of_ble_eq_true rfl⟩) (za_recv (q := (RX7, TX7, 25)) hK hG 14 0 ⟨by omega, rfl⟩ rfl rfl rfl) rfl hl rfl (Nat.le_of_ble_eq_true rfl) dL_law_936 ⟨by show _ ≤ 603072; omega, by show _ ≤ 7207018; omega⟩ (fun r_936 u_936 H locs hp hG hS => ?_)
    obtain ⟨rfl, rfl⟩ := hp
    refine lv_iload hx hb dL_law_939 (lv_at hl 1 rfl) ?_
    refine lv_icmp_eq (tgt := 946) hx hb dL_law_941 (by decide) (fun c_941 => ?_) (fun c_941 => ?_)
    · refine lv_iload hx hb dL_law_946 (lv_at hl 1 rfl) ?_
      refine zb_if_ne (x := zo_po S (zs_ix (xs (nI (i + 1)).toNatClampNeg)) 0) (tgt := 963) hx hb (by omega) dL_law_948 (by decide) (fun c_948 => ?_) (fun c_948 => ?_)
      · exact absurd hc0 c_948
      · refine lv_aload_n hx hb dL_law_951 rfl (lv_at hl 5 rfl) ?_
        refine zb_iconst (n := 0) hx hb dL_law_952 (by decide) ?_
        refine zld_OL hx hb hK hG (by omega) rfl dL_law_953 ?_
        refine lv_iload hx hb dL_law_954 (lv_at hl 0 rfl) ?_
        refine lv_i2l hx hb dL_law_956 rfl ?_
        refine W.lcmp hx hb dL_law_957 ?_
        refine lv_if_eq (tgt := 963) hx hb dL_law_958 (by decide) (fun c_958 => ?_) (fun c_958 => ?_)
        · refine zb_goto (tgt := 2168) hx hb dL_law_963 (by decide) ?_
          refine zb_iinc (n := 3) (k := 7) (lv' := [(5, .int (nI (i + 3))), (7, .int (nI ((S.2 0 (zs_ix (xs (nI (i + 1)).toNatClampNeg)) 0).getD 0))), (6, .int (nI (zo_po S (zs_ix (xs (nI (i + 1)).toNatClampNeg)) 0))), (0, .ref bq), (1, .ref (ad2 0 0)), (2, .ref (ad2 14 0)), (3, .ref (ad2 33 0)), (4, .ref (ad2 34 0))]) hx hb dL_law_2168 hl rfl (by decide) (by decide) rfl (fun ls hl => ?_)
          refine zb_goto (tgt := 28) hx hb dL_law_2171 (by decide) ?_
          have hcf := hce2
          exact kk _ S _ _ _ _ _ _ _ _ _ hG hS hD2 h62 hy.2 (by omega) (by omega) (lv_sub hl [3, 4, 5, 6, 7, 0] rfl)
        · exact absurd (zl_self _) c_958
    · exact absurd (by rw [hy.1]) c_941
  · have h3 : T2 = S := by
      rcases hmo with ⟨h, -⟩ | ⟨-, h⟩
      · exact absurd h hc1
      · exact h
    obtain rfl : S = S2 := h1.symm
    obtain rfl : S = T2 := h3.symm
    refine lv_istore (lv' := [(7, .int r_930), (6, .int (nI (zo_po S (zs_ix (xs (nI (i + 1)).toNatClampNeg)) 0))), (0, .ref bq), (1, .ref (ad2 0 0)), (2, .ref (ad2 14 0)), (3, .ref (ad2 33 0)), (4, .ref (ad2 34 0)), (5, .int (nI i))]) hx hb dL_law_933 hl (by decide) rfl (fun ls hl => ?_)
    refine lv_aload_n hx hb dL_law_935 rfl (lv_at hl 4 rfl) ?_
    refine zc_Vi (As := []) (rest := []) hK hZ hb0 hG hS hx hb hml hown hts (c_X7_thrown l ) (cwV 0 hts gL_law_X7_thrown rfl rfl rfl (by decide +kernel) ⟨Nat.le_of_ble_eq_true rfl, Nat.le_of_ble_eq_true rfl⟩) (za_recv (q := (RX7, TX7, 25)) hK hG 14 0 ⟨by omega, rfl⟩ rfl rfl rfl) rfl hl rfl (Nat.le_of_ble_eq_true rfl) dL_law_936 ⟨by show _ ≤ 603072; omega, by show _ ≤ 7207018; omega⟩ (fun r_936 u_936 H locs hp hG hS => ?_)
    obtain ⟨rfl, rfl⟩ := hp
    refine lv_iload hx hb dL_law_939 (lv_at hl 1 rfl) ?_
    refine lv_icmp_eq (tgt := 946) hx hb dL_law_941 (by decide) (fun c_941 => ?_) (fun c_941 => ?_)
    · refine lv_iload hx hb dL_law_946 (lv_at hl 1 rfl) ?_
      refine zb_if_ne (x := zo_po S (zs_ix (xs (nI (i + 1)).toNatClampNeg)) 0) (tgt := 963) hx hb (by omega) dL_law_948 (by decide) (fun c_948 => ?_) (fun c_948 => ?_)
      · refine zb_goto (tgt := 2168) hx hb dL_law_963 (by decide) ?_
        refine zb_iinc (n := 3) (k := 7) (lv' := [(5, .int (nI (i + 3))), (7, .int r_930), (6, .int (nI (zo_po S (zs_ix (xs (nI (i + 1)).toNatClampNeg)) 0))), (0, .ref bq), (1, .ref (ad2 0 0)), (2, .ref (ad2 14 0)), (3, .ref (ad2 33 0)), (4, .ref (ad2 34 0))]) hx hb dL_law_2168 hl rfl (by decide) (by decide) rfl (fun ls hl => ?_)
        refine zb_goto (tgt := 28) hx hb dL_law_2171 (by decide) ?_
        exact kk _ S _ _ _ _ _ _ _ _ _ hG hS hD2 h62 hy.2 (by omega) (by omega) (lv_sub hl [3, 4, 5, 6, 7, 0] rfl)
      · exact absurd c_948 hc1
    · exact absurd (by rw [hy.1]) c_941

set_option maxRecDepth 100000 in
set_option maxHeartbeats 4000000 in
theorem lq_14 {p : Program} {l : Launch} {e : Env} {s : State} {m : MethodId} {below : List Frame} {meth : Method} {c : Code} {bq b L i : Nat} {xs : Nat → Int32} {E : za_E} (hl0 : l.stackTraces = false) (hL : L ≤ 1536) (C0 : lw_At p s m meth c bq L xs) (hK : za_K E s) (hZ : za_Z b s s.heap) (hAO : va_AO RX2 s) (hb0 : b ≤ s.heap.size) (hbA : ¬ za_A b bq) (hi : i + 3 ≤ L) (kk : zl_at p l e s m below meth c bq b E (i + 3))
    {ad : za_Ad} {S X Y : za_S} {ow : Int64} {dw : UInt64} {H : Heap} {locs : List Loc} {k n : Nat} {ls : Array Slot} (hG : za_G E b (ad, S, X, S, Y, ow, dw) H) (hS : va_S (za_A b) s.heap H locs) (hD : zs_D S X) (h6 : zs_6 S) (hY : zs_B Y) (hk : k ≤ 100 + 2 * i + zs_ce S) (hn : n ≤ 29000 + 14 * i + zs_sl S) (hl : lv_has ls 9 [(0, .ref bq), (1, .ref (ad 0 0)), (2, .ref (ad 14 0)), (3, .ref (ad 33 0)), (4, .ref (ad 34 0)), (5, .int (nI i))]) : W p l e room_1 s m #[Value.ref bq] below meth c H locs k n (lw_Z below #[Value.ref bq] s) (F0 m 966 ls []) := by
  obtain ⟨hx, hb, hr, hml, hown, hts0, hX, hbl, hlocks, hgv⟩ := C0
  have hts : ∀ w ∈ wsL_law, w.before #[Value.ref bq] s = true := fun w h => hts0 w (wsL_law_in w h)
  have hce := zs_ce_le hD.1
  refine lv_aload_n hx hb dL_law_966 rfl (lv_at hl 1 rfl) ?_
  refine lv_aload_n hx hb dL_law_967 rfl (lv_at hl 0 rfl) ?_
  refine lv_iload hx hb dL_law_968 (lv_at hl 5 rfl) ?_
  refine zb_iconst (n := 1) hx hb dL_law_970 (by decide) ?_
  refine zb_iadd hx hb dL_law_971 ?_
  refine va_sld hx hb hX hbl hbA hS (vp_in_nI (by omega) (by omega)) dL_law_972 ?_
  refine lv_aload_n hx hb dL_law_973 rfl (lv_at hl 3 rfl) ?_
  refine zc_LSi (As := [.ref (ad 0 0), .int (xs (nI (i + 1)).toNatClampNeg), .ref (ad 33 0)]) (rest := []) hK hZ hAO hb0 hG hS hx hb hml hown hts (c_L_inRoom l hl0 (xs (nI (i + 1)).toNatClampNeg) hD h6) (vx_cwSW 3 hts gL_law_L_inRoom rfl rfl rfl (by decide +kernel) ⟨Nat.le_of_ble_eq_true rfl, Nat.le_of_ble_eq_true rfl⟩) rfl hl rfl (Nat.le_of_ble_eq_true rfl) dL_law_974 ⟨by show _ ≤ 603072; omega, by show _ ≤ 7207018; omega⟩ (fun r_974 u_974 H locs hp hG hS => ?_)
  obtain ⟨ad2, S2, X2, ow2, rfl, rfl, hsm, hD2, h62, hal⟩ := hp
  have hCb : zo_r S (zs_ix (xs (nI (i + 1)).toNatClampNeg)) < 2 ^ 31 := by
    unfold zo_r
    repeat' split
    all_goals decide
  rw [← hsm 0 (by omega), ← hsm 14 (by omega), ← hsm 33 (by omega), ← hsm 34 (by omega)] at hl
  refine lv_istore (lv' := [(6, .int (nI (zo_r S (zs_ix (xs (nI (i + 1)).toNatClampNeg))))), (0, .ref bq), (1, .ref (ad2 0 0)), (2, .ref (ad2 14 0)), (3, .ref (ad2 33 0)), (4, .ref (ad2 34 0)), (5, .int (nI i))]) hx hb dL_law_977 hl (by decide) rfl (fun ls hl => ?_)
  refine lv_aload_n hx hb dL_law_979 rfl (lv_at hl 3 rfl) ?_
  refine lv_aload_n hx hb dL_law_980 rfl (lv_at hl 1 rfl) ?_
  refine lv_iload hx hb dL_law_981 (lv_at hl 6 rfl) ?_
  refine zb_iconst (n := 1) hx hb dL_law_983 (by decide) ?_
  refine zb_iadd hx hb dL_law_984 ?_
  refine va_sld hx hb hX hbl hbA hS (vp_in_nI (by omega) (by omega)) dL_law_985 ?_
  refine zc_Vi (As := [.int (xs (nI (i + 1)).toNatClampNeg)]) (rest := []) hK hZ hb0 hG hS hx hb hml hown hts (c_X7_inRoom l (xs (nI (i + 1)).toNatClampNeg) (zw_D.M hD h6 hY)) (cwV 1 hts gL_law_X7_inRoom rfl rfl rfl (by decide +kernel) ⟨Nat.le_of_ble_eq_true rfl, Nat.le_of_ble_eq_true rfl⟩) (za_recv (q := (RX7, TX7, 25)) hK hG 14 0 ⟨by omega, rfl⟩ rfl rfl rfl) rfl hl rfl (Nat.le_of_ble_eq_true rfl) dL_law_986 ⟨by show _ ≤ 603072; omega, by show _ ≤ 7207018; omega⟩ (fun r_986 u_986 H locs hp hG hS => ?_)
  obtain ⟨T2, Y2, rfl, hy, hmo⟩ := hp
  rcases hal with ⟨hc0, h1, h2⟩ | ⟨hc1, h1⟩
  · obtain ⟨-, h3, h4⟩ : zo_r S (zs_ix (xs (nI (i + 1)).toNatClampNeg)) = 0 ∧ T2 = S ∧ r_986 = nI (S.1 5 (zs_ix (xs (nI (i + 1)).toNatClampNeg)) 0) := by
      rcases hmo with h | ⟨h, -⟩
      · exact h
      · exact absurd hc0 h
    have hce2 : zs_ce S ≤ zs_ce S ∧ zs_sl S ≤ zs_sl S := ⟨Nat.le_refl _, Nat.le_refl _⟩
    obtain rfl : S = S2 := h1.symm
    obtain rfl : S = T2 := h3.symm
    subst h2
    subst h4
    refine lv_istore (lv' := [(7, .int (nI (S.1 5 (zs_ix (xs (nI (i + 1)).toNatClampNeg)) 0))), (6, .int (nI (zo_r S (zs_ix (xs (nI (i + 1)).toNatClampNeg))))), (0, .ref bq), (1, .ref (ad2 0 0)), (2, .ref (ad2 14 0)), (3, .ref (ad2 33 0)), (4, .ref (ad2 34 0)), (5, .int (nI i))]) hx hb dL_law_989 hl (by decide) rfl (fun ls hl => ?_)
    refine lv_aload_n hx hb dL_law_991 rfl (lv_at hl 4 rfl) ?_
    refine zc_Vi (As := []) (rest := []) hK hZ hb0 hG hS hx hb hml hown hts (c_X7_thrown l ) (cwV 0 hts gL_law_X7_thrown rfl rfl rfl (by decide +kernel) ⟨Nat.le_of_ble_eq_true rfl, Nat.le_of_ble_eq_true rfl⟩) (za_recv (q := (RX7, TX7, 25)) hK hG 14 0 ⟨by omega, rfl⟩ rfl rfl rfl) rfl hl rfl (Nat.le_of_ble_eq_true rfl) dL_law_992 ⟨by show _ ≤ 603072; omega, by show _ ≤ 7207018; omega⟩ (fun r_992 u_992 H locs hp hG hS => ?_)
    obtain ⟨rfl, rfl⟩ := hp
    refine lv_iload hx hb dL_law_995 (lv_at hl 1 rfl) ?_
    refine lv_icmp_eq (tgt := 1002) hx hb dL_law_997 (by decide) (fun c_997 => ?_) (fun c_997 => ?_)
    · refine lv_iload hx hb dL_law_1002 (lv_at hl 1 rfl) ?_
      refine zb_if_ne (x := zo_r S (zs_ix (xs (nI (i + 1)).toNatClampNeg))) (tgt := 1019) hx hb (by omega) dL_law_1004 (by decide) (fun c_1004 => ?_) (fun c_1004 => ?_)
      · exact absurd hc0 c_1004
      · refine lv_aload_n hx hb dL_law_1007 rfl (lv_at hl 5 rfl) ?_
        refine zb_iconst (n := 0) hx hb dL_law_1008 (by decide) ?_
        refine zld_OL hx hb hK hG (by omega) rfl dL_law_1009 ?_
        refine lv_iload hx hb dL_law_1010 (lv_at hl 0 rfl) ?_
        refine lv_i2l hx hb dL_law_1012 rfl ?_
        refine W.lcmp hx hb dL_law_1013 ?_
        refine lv_if_eq (tgt := 1019) hx hb dL_law_1014 (by decide) (fun c_1014 => ?_) (fun c_1014 => ?_)
        · refine zb_goto (tgt := 2168) hx hb dL_law_1019 (by decide) ?_
          refine zb_iinc (n := 3) (k := 7) (lv' := [(5, .int (nI (i + 3))), (7, .int (nI (S.1 5 (zs_ix (xs (nI (i + 1)).toNatClampNeg)) 0))), (6, .int (nI (zo_r S (zs_ix (xs (nI (i + 1)).toNatClampNeg))))), (0, .ref bq), (1, .ref (ad2 0 0)), (2, .ref (ad2 14 0)), (3, .ref (ad2 33 0)), (4, .ref (ad2 34 0))]) hx hb dL_law_2168 hl rfl (by decide) (by decide) rfl (fun ls hl => ?_)
          refine zb_goto (tgt := 28) hx hb dL_law_2171 (by decide) ?_
          have hcf := hce2
          exact kk _ S _ _ _ _ _ _ _ _ _ hG hS hD2 h62 hy.2 (by omega) (by omega) (lv_sub hl [3, 4, 5, 6, 7, 0] rfl)
        · exact absurd (zl_self _) c_1014
    · exact absurd (by rw [hy.1]) c_997
  · have h3 : T2 = S := by
      rcases hmo with ⟨h, -⟩ | ⟨-, h⟩
      · exact absurd h hc1
      · exact h
    obtain rfl : S = S2 := h1.symm
    obtain rfl : S = T2 := h3.symm
    refine lv_istore (lv' := [(7, .int r_986), (6, .int (nI (zo_r S (zs_ix (xs (nI (i + 1)).toNatClampNeg))))), (0, .ref bq), (1, .ref (ad2 0 0)), (2, .ref (ad2 14 0)), (3, .ref (ad2 33 0)), (4, .ref (ad2 34 0)), (5, .int (nI i))]) hx hb dL_law_989 hl (by decide) rfl (fun ls hl => ?_)
    refine lv_aload_n hx hb dL_law_991 rfl (lv_at hl 4 rfl) ?_
    refine zc_Vi (As := []) (rest := []) hK hZ hb0 hG hS hx hb hml hown hts (c_X7_thrown l ) (cwV 0 hts gL_law_X7_thrown rfl rfl rfl (by decide +kernel) ⟨Nat.le_of_ble_eq_true rfl, Nat.le_of_ble_eq_true rfl⟩) (za_recv (q := (RX7, TX7, 25)) hK hG 14 0 ⟨by omega, rfl⟩ rfl rfl rfl) rfl hl rfl (Nat.le_of_ble_eq_true rfl) dL_law_992 ⟨by show _ ≤ 603072; omega, by show _ ≤ 7207018; omega⟩ (fun r_992 u_992 H locs hp hG hS => ?_)
    obtain ⟨rfl, rfl⟩ := hp
    refine lv_iload hx hb dL_law_995 (lv_at hl 1 rfl) ?_
    refine lv_icmp_eq (tgt := 1002) hx hb dL_law_997 (by decide) (fun c_997 => ?_) (fun c_997 => ?_)
    · refine lv_iload hx hb dL_law_1002 (lv_at hl 1 rfl) ?_
      refine zb_if_ne (x := zo_r S (zs_ix (xs (nI (i + 1)).toNatClampNeg))) (tgt := 1019) hx hb (by omega) dL_law_1004 (by decide) (fun c_1004 => ?_) (fun c_1004 => ?_)
      · refine zb_goto (tgt := 2168) hx hb dL_law_1019 (by decide) ?_
        refine zb_iinc (n := 3) (k := 7) (lv' := [(5, .int (nI (i + 3))), (7, .int r_986), (6, .int (nI (zo_r S (zs_ix (xs (nI (i + 1)).toNatClampNeg))))), (0, .ref bq), (1, .ref (ad2 0 0)), (2, .ref (ad2 14 0)), (3, .ref (ad2 33 0)), (4, .ref (ad2 34 0))]) hx hb dL_law_2168 hl rfl (by decide) (by decide) rfl (fun ls hl => ?_)
        refine zb_goto (tgt := 28) hx hb dL_law_2171 (by decide) ?_
        exact kk _ S _ _ _ _ _ _ _ _ _ hG hS hD2 h62 hy.2 (by omega) (by omega) (lv_sub hl [3, 4, 5, 6, 7, 0] rfl)
      · exact absurd c_1004 hc1
    · exact absurd (by rw [hy.1]) c_997

set_option maxRecDepth 100000 in
set_option maxHeartbeats 4000000 in
theorem lq_15 {p : Program} {l : Launch} {e : Env} {s : State} {m : MethodId} {below : List Frame} {meth : Method} {c : Code} {bq b L i : Nat} {xs : Nat → Int32} {E : za_E} (hl0 : l.stackTraces = false) (hL : L ≤ 1536) (C0 : lw_At p s m meth c bq L xs) (hK : za_K E s) (hZ : za_Z b s s.heap) (hAO : va_AO RX2 s) (hb0 : b ≤ s.heap.size) (hbA : ¬ za_A b bq) (hi : i + 3 ≤ L) (kk : zl_at p l e s m below meth c bq b E (i + 3))
    {ad : za_Ad} {S X Y : za_S} {ow : Int64} {dw : UInt64} {H : Heap} {locs : List Loc} {k n : Nat} {ls : Array Slot} (hG : za_G E b (ad, S, X, S, Y, ow, dw) H) (hS : va_S (za_A b) s.heap H locs) (hD : zs_D S X) (h6 : zs_6 S) (hY : zs_B Y) (hk : k ≤ 100 + 2 * i + zs_ce S) (hn : n ≤ 29000 + 14 * i + zs_sl S) (hl : lv_has ls 9 [(0, .ref bq), (1, .ref (ad 0 0)), (2, .ref (ad 14 0)), (3, .ref (ad 33 0)), (4, .ref (ad 34 0)), (5, .int (nI i))]) : W p l e room_1 s m #[Value.ref bq] below meth c H locs k n (lw_Z below #[Value.ref bq] s) (F0 m 1022 ls []) := by
  obtain ⟨hx, hb, hr, hml, hown, hts0, hX, hbl, hlocks, hgv⟩ := C0
  have hts : ∀ w ∈ wsL_law, w.before #[Value.ref bq] s = true := fun w h => hts0 w (wsL_law_in w h)
  have hce := zs_ce_le hD.1
  refine lv_aload_n hx hb dL_law_1022 rfl (lv_at hl 1 rfl) ?_
  refine lv_aload_n hx hb dL_law_1023 rfl (lv_at hl 0 rfl) ?_
  refine lv_iload hx hb dL_law_1024 (lv_at hl 5 rfl) ?_
  refine zb_iconst (n := 1) hx hb dL_law_1026 (by decide) ?_
  refine zb_iadd hx hb dL_law_1027 ?_
  refine va_sld hx hb hX hbl hbA hS (vp_in_nI (by omega) (by omega)) dL_law_1028 ?_
  refine lv_aload_n hx hb dL_law_1029 rfl (lv_at hl 0 rfl) ?_
  refine lv_iload hx hb dL_law_1030 (lv_at hl 5 rfl) ?_
  refine zb_iconst (n := 2) hx hb dL_law_1032 (by decide) ?_
  refine zb_iadd hx hb dL_law_1033 ?_
  refine va_sld hx hb hX hbl hbA hS (vp_in_nI (by omega) (by omega)) dL_law_1034 ?_
  refine lv_aload_n hx hb dL_law_1035 rfl (lv_at hl 3 rfl) ?_
  refine zc_LSi (As := [.ref (ad 0 0), .int (xs (nI (i + 1)).toNatClampNeg), .int (xs (nI (i + 2)).toNatClampNeg), .ref (ad 33 0)]) (rest := []) hK hZ hAO hb0 hG hS hx hb hml hown hts (c_L_personAt l hl0 (xs (nI (i + 1)).toNatClampNeg) (xs (nI (i + 2)).toNatClampNeg) hD h6) (vx_cwSW 4 hts gL_law_L_personAt rfl rfl rfl (by decide +kernel) ⟨Nat.le_of_ble_eq_true rfl, Nat.le_of_ble_eq_true rfl⟩) rfl hl rfl (Nat.le_of_ble_eq_true rfl) dL_law_1036 ⟨by show _ ≤ 603072; omega, by show _ ≤ 7207018; omega⟩ (fun r_1036 u_1036 H locs hp hG hS => ?_)
  obtain ⟨ad2, S2, X2, ow2, rfl, rfl, hsm, hD2, h62, hal⟩ := hp
  have hCb : zo_ra S (zs_ix (xs (nI (i + 1)).toNatClampNeg)) (zs_ix (xs (nI (i + 2)).toNatClampNeg)) < 2 ^ 31 := by
    unfold zo_ra
    repeat' split
    all_goals decide
  rw [← hsm 0 (by omega), ← hsm 14 (by omega), ← hsm 33 (by omega), ← hsm 34 (by omega)] at hl
  refine lv_istore (lv' := [(6, .int (nI (zo_ra S (zs_ix (xs (nI (i + 1)).toNatClampNeg)) (zs_ix (xs (nI (i + 2)).toNatClampNeg))))), (0, .ref bq), (1, .ref (ad2 0 0)), (2, .ref (ad2 14 0)), (3, .ref (ad2 33 0)), (4, .ref (ad2 34 0)), (5, .int (nI i))]) hx hb dL_law_1039 hl (by decide) rfl (fun ls hl => ?_)
  refine lv_aload_n hx hb dL_law_1041 rfl (lv_at hl 3 rfl) ?_
  refine lv_aload_n hx hb dL_law_1042 rfl (lv_at hl 1 rfl) ?_
  refine lv_iload hx hb dL_law_1043 (lv_at hl 6 rfl) ?_
  refine zb_iconst (n := 1) hx hb dL_law_1045 (by decide) ?_
  refine zb_iadd hx hb dL_law_1046 ?_
  refine va_sld hx hb hX hbl hbA hS (vp_in_nI (by omega) (by omega)) dL_law_1047 ?_
  refine lv_aload_n hx hb dL_law_1048 rfl (lv_at hl 1 rfl) ?_
  refine lv_iload hx hb dL_law_1049 (lv_at hl 6 rfl) ?_
  refine zb_iconst (n := 2) hx hb dL_law_1051 (by decide) ?_
  refine zb_iadd hx hb dL_law_1052 ?_
  refine va_sld hx hb hX hbl hbA hS (vp_in_nI (by omega) (by omega)) dL_law_1053 ?_
  refine zc_Vi (As := [.int (xs (nI (i + 1)).toNatClampNeg), .int (xs (nI (i + 2)).toNatClampNeg)]) (rest := []) hK hZ hb0 hG hS hx hb hml hown hts (c_X7_personAt l (xs (nI (i + 1)).toNatClampNeg) (xs (nI (i + 2)).toNatClampNeg) (zw_D.M hD h6 hY)) (cwV 2 hts gL_law_X7_personAt rfl rfl rfl (by decide +kernel) ⟨Nat.le_of_ble_eq_true rfl, Nat.le_of_ble_eq_true rfl⟩) (za_recv (q := (RX7, TX7, 25)) hK hG 14 0 ⟨by omega, rfl⟩ rfl rfl rfl) rfl hl rfl (Nat.le_of_ble_eq_true rfl) dL_law_1054 ⟨by show _ ≤ 603072; omega, by show _ ≤ 7207018; omega⟩ (fun r_1054 u_1054 H locs hp hG hS => ?_)
  obtain ⟨T2, Y2, rfl, hy, hmo⟩ := hp
  rcases hal with ⟨hc0, h1, h2⟩ | ⟨hc1, h1⟩
  · obtain ⟨-, h3, h4⟩ : zo_ra S (zs_ix (xs (nI (i + 1)).toNatClampNeg)) (zs_ix (xs (nI (i + 2)).toNatClampNeg)) = 0 ∧ T2 = S ∧ r_1054 = nI ((zs_at S (zs_ix (xs (nI (i + 1)).toNatClampNeg)) (zs_ix (xs (nI (i + 2)).toNatClampNeg))).getD 0) := by
      rcases hmo with h | ⟨h, -⟩
      · exact h
      · exact absurd hc0 h
    have hce2 : zs_ce S ≤ zs_ce S ∧ zs_sl S ≤ zs_sl S := ⟨Nat.le_refl _, Nat.le_refl _⟩
    obtain rfl : S = S2 := h1.symm
    obtain rfl : S = T2 := h3.symm
    subst h2
    subst h4
    refine lv_istore (lv' := [(7, .int (nI ((zs_at S (zs_ix (xs (nI (i + 1)).toNatClampNeg)) (zs_ix (xs (nI (i + 2)).toNatClampNeg))).getD 0))), (6, .int (nI (zo_ra S (zs_ix (xs (nI (i + 1)).toNatClampNeg)) (zs_ix (xs (nI (i + 2)).toNatClampNeg))))), (0, .ref bq), (1, .ref (ad2 0 0)), (2, .ref (ad2 14 0)), (3, .ref (ad2 33 0)), (4, .ref (ad2 34 0)), (5, .int (nI i))]) hx hb dL_law_1057 hl (by decide) rfl (fun ls hl => ?_)
    refine lv_aload_n hx hb dL_law_1059 rfl (lv_at hl 4 rfl) ?_
    refine zc_Vi (As := []) (rest := []) hK hZ hb0 hG hS hx hb hml hown hts (c_X7_thrown l ) (cwV 0 hts gL_law_X7_thrown rfl rfl rfl (by decide +kernel) ⟨Nat.le_of_ble_eq_true rfl, Nat.le_of_ble_eq_true rfl⟩) (za_recv (q := (RX7, TX7, 25)) hK hG 14 0 ⟨by omega, rfl⟩ rfl rfl rfl) rfl hl rfl (Nat.le_of_ble_eq_true rfl) dL_law_1060 ⟨by show _ ≤ 603072; omega, by show _ ≤ 7207018; omega⟩ (fun r_1060 u_1060 H locs hp hG hS => ?_)
    obtain ⟨rfl, rfl⟩ := hp
    refine lv_iload hx hb dL_law_1063 (lv_at hl 1 rfl) ?_
    refine lv_icmp_eq (tgt := 1070) hx hb dL_law_1065 (by decide) (fun c_1065 => ?_) (fun c_1065 => ?_)
    · refine lv_iload hx hb dL_law_1070 (lv_at hl 1 rfl) ?_
      refine zb_if_ne (x := zo_ra S (zs_ix (xs (nI (i + 1)).toNatClampNeg)) (zs_ix (xs (nI (i + 2)).toNatClampNeg))) (tgt := 1087) hx hb (by omega) dL_law_1072 (by decide) (fun c_1072 => ?_) (fun c_1072 => ?_)
      · exact absurd hc0 c_1072
      · refine lv_aload_n hx hb dL_law_1075 rfl (lv_at hl 5 rfl) ?_
        refine zb_iconst (n := 0) hx hb dL_law_1076 (by decide) ?_
        refine zld_OL hx hb hK hG (by omega) rfl dL_law_1077 ?_
        refine lv_iload hx hb dL_law_1078 (lv_at hl 0 rfl) ?_
        refine lv_i2l hx hb dL_law_1080 rfl ?_
        refine W.lcmp hx hb dL_law_1081 ?_
        refine lv_if_eq (tgt := 1087) hx hb dL_law_1082 (by decide) (fun c_1082 => ?_) (fun c_1082 => ?_)
        · refine zb_goto (tgt := 2168) hx hb dL_law_1087 (by decide) ?_
          refine zb_iinc (n := 3) (k := 7) (lv' := [(5, .int (nI (i + 3))), (7, .int (nI ((zs_at S (zs_ix (xs (nI (i + 1)).toNatClampNeg)) (zs_ix (xs (nI (i + 2)).toNatClampNeg))).getD 0))), (6, .int (nI (zo_ra S (zs_ix (xs (nI (i + 1)).toNatClampNeg)) (zs_ix (xs (nI (i + 2)).toNatClampNeg))))), (0, .ref bq), (1, .ref (ad2 0 0)), (2, .ref (ad2 14 0)), (3, .ref (ad2 33 0)), (4, .ref (ad2 34 0))]) hx hb dL_law_2168 hl rfl (by decide) (by decide) rfl (fun ls hl => ?_)
          refine zb_goto (tgt := 28) hx hb dL_law_2171 (by decide) ?_
          have hcf := hce2
          exact kk _ S _ _ _ _ _ _ _ _ _ hG hS hD2 h62 hy.2 (by omega) (by omega) (lv_sub hl [3, 4, 5, 6, 7, 0] rfl)
        · exact absurd (zl_self _) c_1082
    · exact absurd (by rw [hy.1]) c_1065
  · have h3 : T2 = S := by
      rcases hmo with ⟨h, -⟩ | ⟨-, h⟩
      · exact absurd h hc1
      · exact h
    obtain rfl : S = S2 := h1.symm
    obtain rfl : S = T2 := h3.symm
    refine lv_istore (lv' := [(7, .int r_1054), (6, .int (nI (zo_ra S (zs_ix (xs (nI (i + 1)).toNatClampNeg)) (zs_ix (xs (nI (i + 2)).toNatClampNeg))))), (0, .ref bq), (1, .ref (ad2 0 0)), (2, .ref (ad2 14 0)), (3, .ref (ad2 33 0)), (4, .ref (ad2 34 0)), (5, .int (nI i))]) hx hb dL_law_1057 hl (by decide) rfl (fun ls hl => ?_)
    refine lv_aload_n hx hb dL_law_1059 rfl (lv_at hl 4 rfl) ?_
    refine zc_Vi (As := []) (rest := []) hK hZ hb0 hG hS hx hb hml hown hts (c_X7_thrown l ) (cwV 0 hts gL_law_X7_thrown rfl rfl rfl (by decide +kernel) ⟨Nat.le_of_ble_eq_true rfl, Nat.le_of_ble_eq_true rfl⟩) (za_recv (q := (RX7, TX7, 25)) hK hG 14 0 ⟨by omega, rfl⟩ rfl rfl rfl) rfl hl rfl (Nat.le_of_ble_eq_true rfl) dL_law_1060 ⟨by show _ ≤ 603072; omega, by show _ ≤ 7207018; omega⟩ (fun r_1060 u_1060 H locs hp hG hS => ?_)
    obtain ⟨rfl, rfl⟩ := hp
    refine lv_iload hx hb dL_law_1063 (lv_at hl 1 rfl) ?_
    refine lv_icmp_eq (tgt := 1070) hx hb dL_law_1065 (by decide) (fun c_1065 => ?_) (fun c_1065 => ?_)
    · refine lv_iload hx hb dL_law_1070 (lv_at hl 1 rfl) ?_
      refine zb_if_ne (x := zo_ra S (zs_ix (xs (nI (i + 1)).toNatClampNeg)) (zs_ix (xs (nI (i + 2)).toNatClampNeg))) (tgt := 1087) hx hb (by omega) dL_law_1072 (by decide) (fun c_1072 => ?_) (fun c_1072 => ?_)
      · refine zb_goto (tgt := 2168) hx hb dL_law_1087 (by decide) ?_
        refine zb_iinc (n := 3) (k := 7) (lv' := [(5, .int (nI (i + 3))), (7, .int r_1054), (6, .int (nI (zo_ra S (zs_ix (xs (nI (i + 1)).toNatClampNeg)) (zs_ix (xs (nI (i + 2)).toNatClampNeg))))), (0, .ref bq), (1, .ref (ad2 0 0)), (2, .ref (ad2 14 0)), (3, .ref (ad2 33 0)), (4, .ref (ad2 34 0))]) hx hb dL_law_2168 hl rfl (by decide) (by decide) rfl (fun ls hl => ?_)
        refine zb_goto (tgt := 28) hx hb dL_law_2171 (by decide) ?_
        exact kk _ S _ _ _ _ _ _ _ _ _ hG hS hD2 h62 hy.2 (by omega) (by omega) (lv_sub hl [3, 4, 5, 6, 7, 0] rfl)
      · exact absurd c_1072 hc1
    · exact absurd (by rw [hy.1]) c_1065

set_option maxRecDepth 100000 in
set_option maxHeartbeats 4000000 in
theorem lq_16 {p : Program} {l : Launch} {e : Env} {s : State} {m : MethodId} {below : List Frame} {meth : Method} {c : Code} {bq b L i : Nat} {xs : Nat → Int32} {E : za_E} (hl0 : l.stackTraces = false) (hL : L ≤ 1536) (C0 : lw_At p s m meth c bq L xs) (hK : za_K E s) (hZ : za_Z b s s.heap) (hAO : va_AO RX2 s) (hb0 : b ≤ s.heap.size) (hbA : ¬ za_A b bq) (hi : i + 3 ≤ L) (kk : zl_at p l e s m below meth c bq b E (i + 3))
    {ad : za_Ad} {S X Y : za_S} {ow : Int64} {dw : UInt64} {H : Heap} {locs : List Loc} {k n : Nat} {ls : Array Slot} (hG : za_G E b (ad, S, X, S, Y, ow, dw) H) (hS : va_S (za_A b) s.heap H locs) (hD : zs_D S X) (h6 : zs_6 S) (hY : zs_B Y) (hk : k ≤ 100 + 2 * i + zs_ce S) (hn : n ≤ 29000 + 14 * i + zs_sl S) (hl : lv_has ls 9 [(0, .ref bq), (1, .ref (ad 0 0)), (2, .ref (ad 14 0)), (3, .ref (ad 33 0)), (4, .ref (ad 34 0)), (5, .int (nI i))]) : W p l e room_1 s m #[Value.ref bq] below meth c H locs k n (lw_Z below #[Value.ref bq] s) (F0 m 1090 ls []) := by
  obtain ⟨hx, hb, hr, hml, hown, hts0, hX, hbl, hlocks, hgv⟩ := C0
  have hts : ∀ w ∈ wsL_law, w.before #[Value.ref bq] s = true := fun w h => hts0 w (wsL_law_in w h)
  have hce := zs_ce_le hD.1
  by_cases hno : zo_pass S (zs_ix (xs (nI (i + 1)).toNatClampNeg)) = 0
  · have hpc := zl_7pa hD hno
    have hce9 := zs_ce_le (zs_pass_f hD.1 hD.2.2.2.2.2 _ (zq_pass hno).2.2).1
    refine lv_aload_n hx hb dL_law_1090 rfl (lv_at hl 1 rfl) ?_
    refine lv_aload_n hx hb dL_law_1091 rfl (lv_at hl 0 rfl) ?_
    refine lv_iload hx hb dL_law_1092 (lv_at hl 5 rfl) ?_
    refine zb_iconst (n := 1) hx hb dL_law_1094 (by decide) ?_
    refine zb_iadd hx hb dL_law_1095 ?_
    refine va_sld hx hb hX hbl hbA hS (vp_in_nI (by omega) (by omega)) dL_law_1096 ?_
    refine lv_aload_n hx hb dL_law_1097 rfl (lv_at hl 3 rfl) ?_
    refine zc_LSi (As := [.ref (ad 0 0), .int (xs (nI (i + 1)).toNatClampNeg), .ref (ad 33 0)]) (rest := []) hK hZ hAO hb0 hG hS hx hb hml hown hts (c_L_pass l hl0 (xs (nI (i + 1)).toNatClampNeg) hD h6) (vx_cwSW 3 hts gL_law_L_pass rfl rfl rfl (by decide +kernel) ⟨Nat.le_of_ble_eq_true rfl, Nat.le_of_ble_eq_true rfl⟩) rfl hl rfl (Nat.le_of_ble_eq_true rfl) dL_law_1098 ⟨by show _ ≤ 603072; omega, by show _ ≤ 7207018; omega⟩ (fun r_1098 u_1098 H locs hp hG hS => ?_)
    obtain ⟨ad2, S2, X2, ow2, rfl, rfl, hsm, hD2, h62, hal⟩ := hp
    have hCb : zo_pass S (zs_ix (xs (nI (i + 1)).toNatClampNeg)) < 2 ^ 31 := by
      unfold zo_pass
      repeat' split
      all_goals decide
    rw [← hsm 0 (by omega), ← hsm 14 (by omega), ← hsm 33 (by omega), ← hsm 34 (by omega)] at hl
    refine lv_istore (lv' := [(6, .int (nI (zo_pass S (zs_ix (xs (nI (i + 1)).toNatClampNeg))))), (0, .ref bq), (1, .ref (ad2 0 0)), (2, .ref (ad2 14 0)), (3, .ref (ad2 33 0)), (4, .ref (ad2 34 0)), (5, .int (nI i))]) hx hb dL_law_1101 hl (by decide) rfl (fun ls hl => ?_)
    refine lv_aload_n hx hb dL_law_1103 rfl (lv_at hl 3 rfl) ?_
    refine lv_aload_n hx hb dL_law_1104 rfl (lv_at hl 1 rfl) ?_
    refine lv_iload hx hb dL_law_1105 (lv_at hl 6 rfl) ?_
    refine zb_iconst (n := 1) hx hb dL_law_1107 (by decide) ?_
    refine zb_iadd hx hb dL_law_1108 ?_
    refine va_sld hx hb hX hbl hbA hS (vp_in_nI (by omega) (by omega)) dL_law_1109 ?_
    refine zc_Vi (As := [.int (xs (nI (i + 1)).toNatClampNeg)]) (rest := []) hK hZ hb0 hG hS hx hb hml hown hts (c_X7_pass l (xs (nI (i + 1)).toNatClampNeg) (zw_D.M hD h6 hY)) (cwV 1 hts gL_law_X7_pass rfl rfl rfl (by decide +kernel) ⟨Nat.le_of_ble_eq_true rfl, Nat.le_of_ble_eq_true rfl⟩) (za_recv (q := (RX7, TX7, 25)) hK hG 14 0 ⟨by omega, rfl⟩ rfl rfl rfl) rfl hl rfl (Nat.le_of_ble_eq_true rfl) dL_law_1110 ⟨by show _ ≤ 603072; omega, by show _ ≤ 7207018; omega⟩ (fun r_1110 u_1110 H locs hp hG hS => ?_)
    obtain ⟨T2, Y2, rfl, hy, hmo⟩ := hp
    rcases hal with ⟨hc0, h1, h2⟩ | ⟨hc1, h1⟩
    · obtain ⟨-, h3, h4⟩ : zo_pass S (zs_ix (xs (nI (i + 1)).toNatClampNeg)) = 0 ∧ T2 = zs_pass S (zs_ix (xs (nI (i + 1)).toNatClampNeg)) ∧ r_1110 = nI ((zs_pass S (zs_ix (xs (nI (i + 1)).toNatClampNeg))).1 7 8 0 - S.1 7 8 0) := by
        rcases hmo with h | ⟨h, -⟩
        · exact h
        · exact absurd hc0 h
      have hce2 : zs_ce S ≤ zs_ce (zs_pass S (zs_ix (xs (nI (i + 1)).toNatClampNeg))) ∧ zs_sl S ≤ zs_sl (zs_pass S (zs_ix (xs (nI (i + 1)).toNatClampNeg))) := zl_7pa hD hc0
      subst h1
      subst h3
      subst h2
      subst h4
      refine lv_istore (lv' := [(7, .int (nI ((zs_pass S (zs_ix (xs (nI (i + 1)).toNatClampNeg))).1 7 8 0 - S.1 7 8 0))), (6, .int (nI (zo_pass S (zs_ix (xs (nI (i + 1)).toNatClampNeg))))), (0, .ref bq), (1, .ref (ad2 0 0)), (2, .ref (ad2 14 0)), (3, .ref (ad2 33 0)), (4, .ref (ad2 34 0)), (5, .int (nI i))]) hx hb dL_law_1113 hl (by decide) rfl (fun ls hl => ?_)
      refine lv_aload_n hx hb dL_law_1115 rfl (lv_at hl 4 rfl) ?_
      refine zc_Vi (As := []) (rest := []) hK hZ hb0 hG hS hx hb hml hown hts (c_X7_thrown l ) (cwV 0 hts gL_law_X7_thrown rfl rfl rfl (by decide +kernel) ⟨Nat.le_of_ble_eq_true rfl, Nat.le_of_ble_eq_true rfl⟩) (za_recv (q := (RX7, TX7, 25)) hK hG 14 0 ⟨by omega, rfl⟩ rfl rfl rfl) rfl hl rfl (Nat.le_of_ble_eq_true rfl) dL_law_1116 ⟨by show _ ≤ 603072; omega, by show _ ≤ 7207018; omega⟩ (fun r_1116 u_1116 H locs hp hG hS => ?_)
      obtain ⟨rfl, rfl⟩ := hp
      refine lv_iload hx hb dL_law_1119 (lv_at hl 1 rfl) ?_
      refine lv_icmp_eq (tgt := 1126) hx hb dL_law_1121 (by decide) (fun c_1121 => ?_) (fun c_1121 => ?_)
      · refine lv_iload hx hb dL_law_1126 (lv_at hl 1 rfl) ?_
        refine zb_if_ne (x := zo_pass S (zs_ix (xs (nI (i + 1)).toNatClampNeg))) (tgt := 1143) hx hb (by omega) dL_law_1128 (by decide) (fun c_1128 => ?_) (fun c_1128 => ?_)
        · exact absurd hc0 c_1128
        · refine lv_aload_n hx hb dL_law_1131 rfl (lv_at hl 5 rfl) ?_
          refine zb_iconst (n := 0) hx hb dL_law_1132 (by decide) ?_
          refine zld_OL hx hb hK hG (by omega) rfl dL_law_1133 ?_
          refine lv_iload hx hb dL_law_1134 (lv_at hl 0 rfl) ?_
          refine lv_i2l hx hb dL_law_1136 rfl ?_
          refine W.lcmp hx hb dL_law_1137 ?_
          refine lv_if_eq (tgt := 1143) hx hb dL_law_1138 (by decide) (fun c_1138 => ?_) (fun c_1138 => ?_)
          · refine zb_goto (tgt := 2168) hx hb dL_law_1143 (by decide) ?_
            refine zb_iinc (n := 3) (k := 7) (lv' := [(5, .int (nI (i + 3))), (7, .int (nI ((zs_pass S (zs_ix (xs (nI (i + 1)).toNatClampNeg))).1 7 8 0 - S.1 7 8 0))), (6, .int (nI (zo_pass S (zs_ix (xs (nI (i + 1)).toNatClampNeg))))), (0, .ref bq), (1, .ref (ad2 0 0)), (2, .ref (ad2 14 0)), (3, .ref (ad2 33 0)), (4, .ref (ad2 34 0))]) hx hb dL_law_2168 hl rfl (by decide) (by decide) rfl (fun ls hl => ?_)
            refine zb_goto (tgt := 28) hx hb dL_law_2171 (by decide) ?_
            have hcf := hce2
            exact kk _ (zs_pass S (zs_ix (xs (nI (i + 1)).toNatClampNeg))) _ _ _ _ _ _ _ _ _ hG hS hD2 h62 hy.2 (by omega) (by omega) (lv_sub hl [3, 4, 5, 6, 7, 0] rfl)
          · exact absurd (zl_self _) c_1138
      · exact absurd (by rw [hy.1]) c_1121
    · exact absurd hno hc1
  · skip
    refine lv_aload_n hx hb dL_law_1090 rfl (lv_at hl 1 rfl) ?_
    refine lv_aload_n hx hb dL_law_1091 rfl (lv_at hl 0 rfl) ?_
    refine lv_iload hx hb dL_law_1092 (lv_at hl 5 rfl) ?_
    refine zb_iconst (n := 1) hx hb dL_law_1094 (by decide) ?_
    refine zb_iadd hx hb dL_law_1095 ?_
    refine va_sld hx hb hX hbl hbA hS (vp_in_nI (by omega) (by omega)) dL_law_1096 ?_
    refine lv_aload_n hx hb dL_law_1097 rfl (lv_at hl 3 rfl) ?_
    refine zc_LSi (As := [.ref (ad 0 0), .int (xs (nI (i + 1)).toNatClampNeg), .ref (ad 33 0)]) (rest := []) hK hZ hAO hb0 hG hS hx hb hml hown hts (c_L_pass_no l hl0 (xs (nI (i + 1)).toNatClampNeg) hD h6 hno) (vx_cwSW 3 hts gL_law_L_pass rfl rfl rfl (by decide +kernel) ⟨Nat.le_of_ble_eq_true rfl, Nat.le_of_ble_eq_true rfl⟩) rfl hl rfl (Nat.le_of_ble_eq_true rfl) dL_law_1098 ⟨by show _ ≤ 603072; omega, by show _ ≤ 7207018; omega⟩ (fun r_1098 u_1098 H locs hp hG hS => ?_)
    obtain ⟨ad2, S2, X2, ow2, rfl, rfl, hsm, hD2, h62, hal⟩ := hp
    have hCb : zo_pass S (zs_ix (xs (nI (i + 1)).toNatClampNeg)) < 2 ^ 31 := by
      unfold zo_pass
      repeat' split
      all_goals decide
    rw [← hsm 0 (by omega), ← hsm 14 (by omega), ← hsm 33 (by omega), ← hsm 34 (by omega)] at hl
    refine lv_istore (lv' := [(6, .int (nI (zo_pass S (zs_ix (xs (nI (i + 1)).toNatClampNeg))))), (0, .ref bq), (1, .ref (ad2 0 0)), (2, .ref (ad2 14 0)), (3, .ref (ad2 33 0)), (4, .ref (ad2 34 0)), (5, .int (nI i))]) hx hb dL_law_1101 hl (by decide) rfl (fun ls hl => ?_)
    refine lv_aload_n hx hb dL_law_1103 rfl (lv_at hl 3 rfl) ?_
    refine lv_aload_n hx hb dL_law_1104 rfl (lv_at hl 1 rfl) ?_
    refine lv_iload hx hb dL_law_1105 (lv_at hl 6 rfl) ?_
    refine zb_iconst (n := 1) hx hb dL_law_1107 (by decide) ?_
    refine zb_iadd hx hb dL_law_1108 ?_
    refine va_sld hx hb hX hbl hbA hS (vp_in_nI (by omega) (by omega)) dL_law_1109 ?_
    refine zc_Vi (As := [.int (xs (nI (i + 1)).toNatClampNeg)]) (rest := []) hK hZ hb0 hG hS hx hb hml hown hts (c_X7_pass l (xs (nI (i + 1)).toNatClampNeg) (zw_D.M hD h6 hY)) (cwV 1 hts gL_law_X7_pass rfl rfl rfl (by decide +kernel) ⟨Nat.le_of_ble_eq_true rfl, Nat.le_of_ble_eq_true rfl⟩) (za_recv (q := (RX7, TX7, 25)) hK hG 14 0 ⟨by omega, rfl⟩ rfl rfl rfl) rfl hl rfl (Nat.le_of_ble_eq_true rfl) dL_law_1110 ⟨by show _ ≤ 603072; omega, by show _ ≤ 7207018; omega⟩ (fun r_1110 u_1110 H locs hp hG hS => ?_)
    obtain ⟨T2, Y2, rfl, hy, hmo⟩ := hp
    rcases hal with ⟨hc0, h1, h2⟩ | ⟨hc1, h1⟩
    · exact absurd hc0 hno
    · have h3 : T2 = S := by
        rcases hmo with ⟨h, -⟩ | ⟨-, h⟩
        · exact absurd h hc1
        · exact h
      obtain rfl : S = S2 := h1.symm
      obtain rfl : S = T2 := h3.symm
      refine lv_istore (lv' := [(7, .int r_1110), (6, .int (nI (zo_pass S (zs_ix (xs (nI (i + 1)).toNatClampNeg))))), (0, .ref bq), (1, .ref (ad2 0 0)), (2, .ref (ad2 14 0)), (3, .ref (ad2 33 0)), (4, .ref (ad2 34 0)), (5, .int (nI i))]) hx hb dL_law_1113 hl (by decide) rfl (fun ls hl => ?_)
      refine lv_aload_n hx hb dL_law_1115 rfl (lv_at hl 4 rfl) ?_
      refine zc_Vi (As := []) (rest := []) hK hZ hb0 hG hS hx hb hml hown hts (c_X7_thrown l ) (cwV 0 hts gL_law_X7_thrown rfl rfl rfl (by decide +kernel) ⟨Nat.le_of_ble_eq_true rfl, Nat.le_of_ble_eq_true rfl⟩) (za_recv (q := (RX7, TX7, 25)) hK hG 14 0 ⟨by omega, rfl⟩ rfl rfl rfl) rfl hl rfl (Nat.le_of_ble_eq_true rfl) dL_law_1116 ⟨by show _ ≤ 603072; omega, by show _ ≤ 7207018; omega⟩ (fun r_1116 u_1116 H locs hp hG hS => ?_)
      obtain ⟨rfl, rfl⟩ := hp
      refine lv_iload hx hb dL_law_1119 (lv_at hl 1 rfl) ?_
      refine lv_icmp_eq (tgt := 1126) hx hb dL_law_1121 (by decide) (fun c_1121 => ?_) (fun c_1121 => ?_)
      · refine lv_iload hx hb dL_law_1126 (lv_at hl 1 rfl) ?_
        refine zb_if_ne (x := zo_pass S (zs_ix (xs (nI (i + 1)).toNatClampNeg))) (tgt := 1143) hx hb (by omega) dL_law_1128 (by decide) (fun c_1128 => ?_) (fun c_1128 => ?_)
        · refine zb_goto (tgt := 2168) hx hb dL_law_1143 (by decide) ?_
          refine zb_iinc (n := 3) (k := 7) (lv' := [(5, .int (nI (i + 3))), (7, .int r_1110), (6, .int (nI (zo_pass S (zs_ix (xs (nI (i + 1)).toNatClampNeg))))), (0, .ref bq), (1, .ref (ad2 0 0)), (2, .ref (ad2 14 0)), (3, .ref (ad2 33 0)), (4, .ref (ad2 34 0))]) hx hb dL_law_2168 hl rfl (by decide) (by decide) rfl (fun ls hl => ?_)
          refine zb_goto (tgt := 28) hx hb dL_law_2171 (by decide) ?_
          exact kk _ S _ _ _ _ _ _ _ _ _ hG hS hD2 h62 hy.2 (by omega) (by omega) (lv_sub hl [3, 4, 5, 6, 7, 0] rfl)
        · exact absurd c_1128 hc1
      · exact absurd (by rw [hy.1]) c_1121

set_option maxRecDepth 100000 in
set_option maxHeartbeats 4000000 in
theorem lq_17 {p : Program} {l : Launch} {e : Env} {s : State} {m : MethodId} {below : List Frame} {meth : Method} {c : Code} {bq b L i : Nat} {xs : Nat → Int32} {E : za_E} (hl0 : l.stackTraces = false) (hL : L ≤ 1536) (C0 : lw_At p s m meth c bq L xs) (hK : za_K E s) (hZ : za_Z b s s.heap) (hAO : va_AO RX2 s) (hb0 : b ≤ s.heap.size) (hbA : ¬ za_A b bq) (hi : i + 3 ≤ L) (kk : zl_at p l e s m below meth c bq b E (i + 3))
    {ad : za_Ad} {S X Y : za_S} {ow : Int64} {dw : UInt64} {H : Heap} {locs : List Loc} {k n : Nat} {ls : Array Slot} (hG : za_G E b (ad, S, X, S, Y, ow, dw) H) (hS : va_S (za_A b) s.heap H locs) (hD : zs_D S X) (h6 : zs_6 S) (hY : zs_B Y) (hk : k ≤ 100 + 2 * i + zs_ce S) (hn : n ≤ 29000 + 14 * i + zs_sl S) (hl : lv_has ls 9 [(0, .ref bq), (1, .ref (ad 0 0)), (2, .ref (ad 14 0)), (3, .ref (ad 33 0)), (4, .ref (ad 34 0)), (5, .int (nI i))]) : W p l e room_1 s m #[Value.ref bq] below meth c H locs k n (lw_Z below #[Value.ref bq] s) (F0 m 1146 ls []) := by
  obtain ⟨hx, hb, hr, hml, hown, hts0, hX, hbl, hlocks, hgv⟩ := C0
  have hts : ∀ w ∈ wsL_law, w.before #[Value.ref bq] s = true := fun w h => hts0 w (wsL_law_in w h)
  have hce := zs_ce_le hD.1
  refine lv_aload_n hx hb dL_law_1146 rfl (lv_at hl 1 rfl) ?_
  refine zc_Vi (As := []) (rest := []) hK hZ hb0 hG hS hx hb hml hown hts (c_X6_tick l hD.C) (cwV 0 hts gL_law_X6_tick rfl rfl rfl (by decide +kernel) ⟨Nat.le_of_ble_eq_true rfl, Nat.le_of_ble_eq_true rfl⟩) (za_recv (q := (RX6, TX6, 11)) hK hG 0 0 ⟨by omega, rfl⟩ rfl rfl rfl) rfl hl rfl (Nat.le_of_ble_eq_true rfl) dL_law_1147 ⟨by show _ ≤ 603072; omega, by show _ ≤ 7207018; omega⟩ (fun r_1147 u_1147 H locs hp hG hS => ?_)
  obtain ⟨rfl, rfl⟩ := hp
  refine lv_aload_n hx hb dL_law_1150 rfl (lv_at hl 2 rfl) ?_
  refine zc_Vi (As := []) (rest := [.int (nI (S.1 0 3 0))]) hK hZ hb0 hG hS hx hb hml hown hts (c_X7_tick l (zw_D.M hD h6 hY)) (cwV 0 hts gL_law_X7_tick rfl rfl rfl (by decide +kernel) ⟨Nat.le_of_ble_eq_true rfl, Nat.le_of_ble_eq_true rfl⟩) (za_recv (q := (RX7, TX7, 25)) hK hG 14 0 ⟨by omega, rfl⟩ rfl rfl rfl) rfl hl rfl (Nat.le_of_ble_eq_true rfl) dL_law_1151 ⟨by show _ ≤ 603072; omega, by show _ ≤ 7207018; omega⟩ (fun r_1151 u_1151 H locs hp hG hS => ?_)
  obtain ⟨T2, Y2, rfl, hy, hmo⟩ := hp
  obtain ⟨h1, h2⟩ : T2 = S ∧ r_1151 = nI (S.1 0 3 0) := by
    rcases hmo with h | ⟨h, -⟩
    · exact h.2
    · exact absurd rfl h
  obtain rfl : S = T2 := h1.symm
  subst h2
  refine lv_icmp_eq (tgt := 2168) hx hb dL_law_1154 (by decide) (fun c_1154 => ?_) (fun c_1154 => ?_)
  · refine zb_iinc (n := 3) (k := 5) (lv' := [(5, .int (nI (i + 3))), (0, .ref bq), (1, .ref (ad 0 0)), (2, .ref (ad 14 0)), (3, .ref (ad 33 0)), (4, .ref (ad 34 0))]) hx hb dL_law_2168 hl rfl (by decide) (by decide) rfl (fun ls hl => ?_)
    refine zb_goto (tgt := 28) hx hb dL_law_2171 (by decide) ?_
    exact kk _ S _ _ _ _ _ _ _ _ _ hG hS hD h6 hy.2 (by omega) (by omega) (lv_sub hl [1, 2, 3, 4, 5, 0] rfl)
  · exact absurd rfl c_1154

set_option maxRecDepth 100000 in
set_option maxHeartbeats 4000000 in
theorem lq_18 {p : Program} {l : Launch} {e : Env} {s : State} {m : MethodId} {below : List Frame} {meth : Method} {c : Code} {bq b L i : Nat} {xs : Nat → Int32} {E : za_E} (hl0 : l.stackTraces = false) (hL : L ≤ 1536) (C0 : lw_At p s m meth c bq L xs) (hK : za_K E s) (hZ : za_Z b s s.heap) (hAO : va_AO RX2 s) (hb0 : b ≤ s.heap.size) (hbA : ¬ za_A b bq) (hi : i + 3 ≤ L) (kk : zl_at p l e s m below meth c bq b E (i + 3))
    {ad : za_Ad} {S X Y : za_S} {ow : Int64} {dw : UInt64} {H : Heap} {locs : List Loc} {k n : Nat} {ls : Array Slot} (hG : za_G E b (ad, S, X, S, Y, ow, dw) H) (hS : va_S (za_A b) s.heap H locs) (hD : zs_D S X) (h6 : zs_6 S) (hY : zs_B Y) (hk : k ≤ 100 + 2 * i + zs_ce S) (hn : n ≤ 29000 + 14 * i + zs_sl S) (hl : lv_has ls 9 [(0, .ref bq), (1, .ref (ad 0 0)), (2, .ref (ad 14 0)), (3, .ref (ad 33 0)), (4, .ref (ad 34 0)), (5, .int (nI i))]) : W p l e room_1 s m #[Value.ref bq] below meth c H locs k n (lw_Z below #[Value.ref bq] s) (F0 m 1159 ls []) := by
  obtain ⟨hx, hb, hr, hml, hown, hts0, hX, hbl, hlocks, hgv⟩ := C0
  have hts : ∀ w ∈ wsL_law, w.before #[Value.ref bq] s = true := fun w h => hts0 w (wsL_law_in w h)
  have hce := zs_ce_le hD.1
  refine lv_aload_n hx hb dL_law_1159 rfl (lv_at hl 1 rfl) ?_
  refine lv_aload_n hx hb dL_law_1160 rfl (lv_at hl 0 rfl) ?_
  refine lv_iload hx hb dL_law_1161 (lv_at hl 5 rfl) ?_
  refine zb_iconst (n := 1) hx hb dL_law_1163 (by decide) ?_
  refine zb_iadd hx hb dL_law_1164 ?_
  refine va_sld hx hb hX hbl hbA hS (vp_in_nI (by omega) (by omega)) dL_law_1165 ?_
  refine lv_aload_n hx hb dL_law_1166 rfl (lv_at hl 3 rfl) ?_
  refine zc_LSi (As := [.ref (ad 0 0), .int (xs (nI (i + 1)).toNatClampNeg), .ref (ad 33 0)]) (rest := []) hK hZ hAO hb0 hG hS hx hb hml hown hts (c_L_speaker l hl0 (xs (nI (i + 1)).toNatClampNeg) hD h6) (vx_cwSW 3 hts gL_law_L_speaker rfl rfl rfl (by decide +kernel) ⟨Nat.le_of_ble_eq_true rfl, Nat.le_of_ble_eq_true rfl⟩) rfl hl rfl (Nat.le_of_ble_eq_true rfl) dL_law_1167 ⟨by show _ ≤ 603072; omega, by show _ ≤ 7207018; omega⟩ (fun r_1167 u_1167 H locs hp hG hS => ?_)
  obtain ⟨ad2, S2, X2, ow2, rfl, rfl, hsm, hD2, h62, hal⟩ := hp
  have hCb : zo_rs S (zs_ix (xs (nI (i + 1)).toNatClampNeg)) < 2 ^ 31 := by
    unfold zo_rs
    repeat' split
    all_goals decide
  rw [← hsm 0 (by omega), ← hsm 14 (by omega), ← hsm 33 (by omega), ← hsm 34 (by omega)] at hl
  refine lv_istore (lv' := [(6, .int (nI (zo_rs S (zs_ix (xs (nI (i + 1)).toNatClampNeg))))), (0, .ref bq), (1, .ref (ad2 0 0)), (2, .ref (ad2 14 0)), (3, .ref (ad2 33 0)), (4, .ref (ad2 34 0)), (5, .int (nI i))]) hx hb dL_law_1170 hl (by decide) rfl (fun ls hl => ?_)
  refine lv_aload_n hx hb dL_law_1172 rfl (lv_at hl 3 rfl) ?_
  refine lv_aload_n hx hb dL_law_1173 rfl (lv_at hl 1 rfl) ?_
  refine lv_iload hx hb dL_law_1174 (lv_at hl 6 rfl) ?_
  refine zb_iconst (n := 1) hx hb dL_law_1176 (by decide) ?_
  refine zb_iadd hx hb dL_law_1177 ?_
  refine va_sld hx hb hX hbl hbA hS (vp_in_nI (by omega) (by omega)) dL_law_1178 ?_
  refine zc_Vi (As := [.int (xs (nI (i + 1)).toNatClampNeg)]) (rest := []) hK hZ hb0 hG hS hx hb hml hown hts (c_X7_speaker l (xs (nI (i + 1)).toNatClampNeg) (zw_D.M hD h6 hY)) (cwV 1 hts gL_law_X7_speaker rfl rfl rfl (by decide +kernel) ⟨Nat.le_of_ble_eq_true rfl, Nat.le_of_ble_eq_true rfl⟩) (za_recv (q := (RX7, TX7, 25)) hK hG 14 0 ⟨by omega, rfl⟩ rfl rfl rfl) rfl hl rfl (Nat.le_of_ble_eq_true rfl) dL_law_1179 ⟨by show _ ≤ 603072; omega, by show _ ≤ 7207018; omega⟩ (fun r_1179 u_1179 H locs hp hG hS => ?_)
  obtain ⟨T2, Y2, rfl, hy, hmo⟩ := hp
  rcases hal with ⟨hc0, h1, h2⟩ | ⟨hc1, h1⟩
  · obtain ⟨-, h3, h4⟩ : zo_rs S (zs_ix (xs (nI (i + 1)).toNatClampNeg)) = 0 ∧ T2 = S ∧ r_1179 = nI ((S.2 3 (zs_ix (xs (nI (i + 1)).toNatClampNeg)) 0).getD 0) := by
      rcases hmo with h | ⟨h, -⟩
      · exact h
      · exact absurd hc0 h
    have hce2 : zs_ce S ≤ zs_ce S ∧ zs_sl S ≤ zs_sl S := ⟨Nat.le_refl _, Nat.le_refl _⟩
    obtain rfl : S = S2 := h1.symm
    obtain rfl : S = T2 := h3.symm
    subst h2
    subst h4
    refine lv_istore (lv' := [(7, .int (nI ((S.2 3 (zs_ix (xs (nI (i + 1)).toNatClampNeg)) 0).getD 0))), (6, .int (nI (zo_rs S (zs_ix (xs (nI (i + 1)).toNatClampNeg))))), (0, .ref bq), (1, .ref (ad2 0 0)), (2, .ref (ad2 14 0)), (3, .ref (ad2 33 0)), (4, .ref (ad2 34 0)), (5, .int (nI i))]) hx hb dL_law_1182 hl (by decide) rfl (fun ls hl => ?_)
    refine lv_aload_n hx hb dL_law_1184 rfl (lv_at hl 4 rfl) ?_
    refine zc_Vi (As := []) (rest := []) hK hZ hb0 hG hS hx hb hml hown hts (c_X7_thrown l ) (cwV 0 hts gL_law_X7_thrown rfl rfl rfl (by decide +kernel) ⟨Nat.le_of_ble_eq_true rfl, Nat.le_of_ble_eq_true rfl⟩) (za_recv (q := (RX7, TX7, 25)) hK hG 14 0 ⟨by omega, rfl⟩ rfl rfl rfl) rfl hl rfl (Nat.le_of_ble_eq_true rfl) dL_law_1185 ⟨by show _ ≤ 603072; omega, by show _ ≤ 7207018; omega⟩ (fun r_1185 u_1185 H locs hp hG hS => ?_)
    obtain ⟨rfl, rfl⟩ := hp
    refine lv_iload hx hb dL_law_1188 (lv_at hl 1 rfl) ?_
    refine lv_icmp_eq (tgt := 1195) hx hb dL_law_1190 (by decide) (fun c_1190 => ?_) (fun c_1190 => ?_)
    · refine lv_iload hx hb dL_law_1195 (lv_at hl 1 rfl) ?_
      refine zb_if_ne (x := zo_rs S (zs_ix (xs (nI (i + 1)).toNatClampNeg))) (tgt := 1212) hx hb (by omega) dL_law_1197 (by decide) (fun c_1197 => ?_) (fun c_1197 => ?_)
      · exact absurd hc0 c_1197
      · refine lv_aload_n hx hb dL_law_1200 rfl (lv_at hl 5 rfl) ?_
        refine zb_iconst (n := 0) hx hb dL_law_1201 (by decide) ?_
        refine zld_OL hx hb hK hG (by omega) rfl dL_law_1202 ?_
        refine lv_iload hx hb dL_law_1203 (lv_at hl 0 rfl) ?_
        refine lv_i2l hx hb dL_law_1205 rfl ?_
        refine W.lcmp hx hb dL_law_1206 ?_
        refine lv_if_eq (tgt := 1212) hx hb dL_law_1207 (by decide) (fun c_1207 => ?_) (fun c_1207 => ?_)
        · refine zb_goto (tgt := 2168) hx hb dL_law_1212 (by decide) ?_
          refine zb_iinc (n := 3) (k := 7) (lv' := [(5, .int (nI (i + 3))), (7, .int (nI ((S.2 3 (zs_ix (xs (nI (i + 1)).toNatClampNeg)) 0).getD 0))), (6, .int (nI (zo_rs S (zs_ix (xs (nI (i + 1)).toNatClampNeg))))), (0, .ref bq), (1, .ref (ad2 0 0)), (2, .ref (ad2 14 0)), (3, .ref (ad2 33 0)), (4, .ref (ad2 34 0))]) hx hb dL_law_2168 hl rfl (by decide) (by decide) rfl (fun ls hl => ?_)
          refine zb_goto (tgt := 28) hx hb dL_law_2171 (by decide) ?_
          have hcf := hce2
          exact kk _ S _ _ _ _ _ _ _ _ _ hG hS hD2 h62 hy.2 (by omega) (by omega) (lv_sub hl [3, 4, 5, 6, 7, 0] rfl)
        · exact absurd (zl_self _) c_1207
    · exact absurd (by rw [hy.1]) c_1190
  · have h3 : T2 = S := by
      rcases hmo with ⟨h, -⟩ | ⟨-, h⟩
      · exact absurd h hc1
      · exact h
    obtain rfl : S = S2 := h1.symm
    obtain rfl : S = T2 := h3.symm
    refine lv_istore (lv' := [(7, .int r_1179), (6, .int (nI (zo_rs S (zs_ix (xs (nI (i + 1)).toNatClampNeg))))), (0, .ref bq), (1, .ref (ad2 0 0)), (2, .ref (ad2 14 0)), (3, .ref (ad2 33 0)), (4, .ref (ad2 34 0)), (5, .int (nI i))]) hx hb dL_law_1182 hl (by decide) rfl (fun ls hl => ?_)
    refine lv_aload_n hx hb dL_law_1184 rfl (lv_at hl 4 rfl) ?_
    refine zc_Vi (As := []) (rest := []) hK hZ hb0 hG hS hx hb hml hown hts (c_X7_thrown l ) (cwV 0 hts gL_law_X7_thrown rfl rfl rfl (by decide +kernel) ⟨Nat.le_of_ble_eq_true rfl, Nat.le_of_ble_eq_true rfl⟩) (za_recv (q := (RX7, TX7, 25)) hK hG 14 0 ⟨by omega, rfl⟩ rfl rfl rfl) rfl hl rfl (Nat.le_of_ble_eq_true rfl) dL_law_1185 ⟨by show _ ≤ 603072; omega, by show _ ≤ 7207018; omega⟩ (fun r_1185 u_1185 H locs hp hG hS => ?_)
    obtain ⟨rfl, rfl⟩ := hp
    refine lv_iload hx hb dL_law_1188 (lv_at hl 1 rfl) ?_
    refine lv_icmp_eq (tgt := 1195) hx hb dL_law_1190 (by decide) (fun c_1190 => ?_) (fun c_1190 => ?_)
    · refine lv_iload hx hb dL_law_1195 (lv_at hl 1 rfl) ?_
      refine zb_if_ne (x := zo_rs S (zs_ix (xs (nI (i + 1)).toNatClampNeg))) (tgt := 1212) hx hb (by omega) dL_law_1197 (by decide) (fun c_1197 => ?_) (fun c_1197 => ?_)
      · refine zb_goto (tgt := 2168) hx hb dL_law_1212 (by decide) ?_
        refine zb_iinc (n := 3) (k := 7) (lv' := [(5, .int (nI (i + 3))), (7, .int r_1179), (6, .int (nI (zo_rs S (zs_ix (xs (nI (i + 1)).toNatClampNeg))))), (0, .ref bq), (1, .ref (ad2 0 0)), (2, .ref (ad2 14 0)), (3, .ref (ad2 33 0)), (4, .ref (ad2 34 0))]) hx hb dL_law_2168 hl rfl (by decide) (by decide) rfl (fun ls hl => ?_)
        refine zb_goto (tgt := 28) hx hb dL_law_2171 (by decide) ?_
        exact kk _ S _ _ _ _ _ _ _ _ _ hG hS hD2 h62 hy.2 (by omega) (by omega) (lv_sub hl [3, 4, 5, 6, 7, 0] rfl)
      · exact absurd c_1197 hc1
    · exact absurd (by rw [hy.1]) c_1190

set_option maxRecDepth 100000 in
set_option maxHeartbeats 4000000 in
theorem lq_19 {p : Program} {l : Launch} {e : Env} {s : State} {m : MethodId} {below : List Frame} {meth : Method} {c : Code} {bq b L i : Nat} {xs : Nat → Int32} {E : za_E} (hl0 : l.stackTraces = false) (hL : L ≤ 1536) (C0 : lw_At p s m meth c bq L xs) (hK : za_K E s) (hZ : za_Z b s s.heap) (hAO : va_AO RX2 s) (hb0 : b ≤ s.heap.size) (hbA : ¬ za_A b bq) (hi : i + 3 ≤ L) (kk : zl_at p l e s m below meth c bq b E (i + 3))
    {ad : za_Ad} {S X Y : za_S} {ow : Int64} {dw : UInt64} {H : Heap} {locs : List Loc} {k n : Nat} {ls : Array Slot} (hG : za_G E b (ad, S, X, S, Y, ow, dw) H) (hS : va_S (za_A b) s.heap H locs) (hD : zs_D S X) (h6 : zs_6 S) (hY : zs_B Y) (hk : k ≤ 100 + 2 * i + zs_ce S) (hn : n ≤ 29000 + 14 * i + zs_sl S) (hl : lv_has ls 9 [(0, .ref bq), (1, .ref (ad 0 0)), (2, .ref (ad 14 0)), (3, .ref (ad 33 0)), (4, .ref (ad 34 0)), (5, .int (nI i))]) : W p l e room_1 s m #[Value.ref bq] below meth c H locs k n (lw_Z below #[Value.ref bq] s) (F0 m 1215 ls []) := by
  obtain ⟨hx, hb, hr, hml, hown, hts0, hX, hbl, hlocks, hgv⟩ := C0
  have hts : ∀ w ∈ wsL_law, w.before #[Value.ref bq] s = true := fun w h => hts0 w (wsL_law_in w h)
  have hce := zs_ce_le hD.1
  refine lv_aload_n hx hb dL_law_1215 rfl (lv_at hl 1 rfl) ?_
  refine lv_aload_n hx hb dL_law_1216 rfl (lv_at hl 0 rfl) ?_
  refine lv_iload hx hb dL_law_1217 (lv_at hl 5 rfl) ?_
  refine zb_iconst (n := 1) hx hb dL_law_1219 (by decide) ?_
  refine zb_iadd hx hb dL_law_1220 ?_
  refine va_sld hx hb hX hbl hbA hS (vp_in_nI (by omega) (by omega)) dL_law_1221 ?_
  refine lv_aload_n hx hb dL_law_1222 rfl (lv_at hl 3 rfl) ?_
  refine zc_LSi (As := [.ref (ad 0 0), .int (xs (nI (i + 1)).toNatClampNeg), .ref (ad 33 0)]) (rest := []) hK hZ hAO hb0 hG hS hx hb hml hown hts (c_L_challenge l hl0 (xs (nI (i + 1)).toNatClampNeg) hD h6) (vx_cwSW 3 hts gL_law_L_challenge rfl rfl rfl (by decide +kernel) ⟨Nat.le_of_ble_eq_true rfl, Nat.le_of_ble_eq_true rfl⟩) rfl hl rfl (Nat.le_of_ble_eq_true rfl) dL_law_1223 ⟨by show _ ≤ 603072; omega, by show _ ≤ 7207018; omega⟩ (fun r_1223 u_1223 H locs hp hG hS => ?_)
  obtain ⟨ad2, S2, X2, ow2, rfl, rfl, hsm, hD2, h62, hal⟩ := hp
  have hCb : zo_r S (zs_ix (xs (nI (i + 1)).toNatClampNeg)) < 2 ^ 31 := by
    unfold zo_r
    repeat' split
    all_goals decide
  rw [← hsm 0 (by omega), ← hsm 14 (by omega), ← hsm 33 (by omega), ← hsm 34 (by omega)] at hl
  refine lv_istore (lv' := [(6, .int (nI (zo_r S (zs_ix (xs (nI (i + 1)).toNatClampNeg))))), (0, .ref bq), (1, .ref (ad2 0 0)), (2, .ref (ad2 14 0)), (3, .ref (ad2 33 0)), (4, .ref (ad2 34 0)), (5, .int (nI i))]) hx hb dL_law_1226 hl (by decide) rfl (fun ls hl => ?_)
  refine lv_aload_n hx hb dL_law_1228 rfl (lv_at hl 3 rfl) ?_
  refine lv_aload_n hx hb dL_law_1229 rfl (lv_at hl 1 rfl) ?_
  refine lv_iload hx hb dL_law_1230 (lv_at hl 6 rfl) ?_
  refine zb_iconst (n := 1) hx hb dL_law_1232 (by decide) ?_
  refine zb_iadd hx hb dL_law_1233 ?_
  refine va_sld hx hb hX hbl hbA hS (vp_in_nI (by omega) (by omega)) dL_law_1234 ?_
  refine zc_Vi (As := [.int (xs (nI (i + 1)).toNatClampNeg)]) (rest := []) hK hZ hb0 hG hS hx hb hml hown hts (c_X7_challenge l (xs (nI (i + 1)).toNatClampNeg) (zw_D.M hD h6 hY)) (cwV 1 hts gL_law_X7_challenge rfl rfl rfl (by decide +kernel) ⟨Nat.le_of_ble_eq_true rfl, Nat.le_of_ble_eq_true rfl⟩) (za_recv (q := (RX7, TX7, 25)) hK hG 14 0 ⟨by omega, rfl⟩ rfl rfl rfl) rfl hl rfl (Nat.le_of_ble_eq_true rfl) dL_law_1235 ⟨by show _ ≤ 603072; omega, by show _ ≤ 7207018; omega⟩ (fun r_1235 u_1235 H locs hp hG hS => ?_)
  obtain ⟨T2, Y2, rfl, hy, hmo⟩ := hp
  rcases hal with ⟨hc0, h1, h2⟩ | ⟨hc1, h1⟩
  · obtain ⟨-, h3, h4⟩ : zo_r S (zs_ix (xs (nI (i + 1)).toNatClampNeg)) = 0 ∧ T2 = S ∧ r_1235 = nI (S.1 6 (zs_ix (xs (nI (i + 1)).toNatClampNeg)) 0) := by
      rcases hmo with h | ⟨h, -⟩
      · exact h
      · exact absurd hc0 h
    have hce2 : zs_ce S ≤ zs_ce S ∧ zs_sl S ≤ zs_sl S := ⟨Nat.le_refl _, Nat.le_refl _⟩
    obtain rfl : S = S2 := h1.symm
    obtain rfl : S = T2 := h3.symm
    subst h2
    subst h4
    refine lv_istore (lv' := [(7, .int (nI (S.1 6 (zs_ix (xs (nI (i + 1)).toNatClampNeg)) 0))), (6, .int (nI (zo_r S (zs_ix (xs (nI (i + 1)).toNatClampNeg))))), (0, .ref bq), (1, .ref (ad2 0 0)), (2, .ref (ad2 14 0)), (3, .ref (ad2 33 0)), (4, .ref (ad2 34 0)), (5, .int (nI i))]) hx hb dL_law_1238 hl (by decide) rfl (fun ls hl => ?_)
    refine lv_aload_n hx hb dL_law_1240 rfl (lv_at hl 4 rfl) ?_
    refine zc_Vi (As := []) (rest := []) hK hZ hb0 hG hS hx hb hml hown hts (c_X7_thrown l ) (cwV 0 hts gL_law_X7_thrown rfl rfl rfl (by decide +kernel) ⟨Nat.le_of_ble_eq_true rfl, Nat.le_of_ble_eq_true rfl⟩) (za_recv (q := (RX7, TX7, 25)) hK hG 14 0 ⟨by omega, rfl⟩ rfl rfl rfl) rfl hl rfl (Nat.le_of_ble_eq_true rfl) dL_law_1241 ⟨by show _ ≤ 603072; omega, by show _ ≤ 7207018; omega⟩ (fun r_1241 u_1241 H locs hp hG hS => ?_)
    obtain ⟨rfl, rfl⟩ := hp
    refine lv_iload hx hb dL_law_1244 (lv_at hl 1 rfl) ?_
    refine lv_icmp_eq (tgt := 1251) hx hb dL_law_1246 (by decide) (fun c_1246 => ?_) (fun c_1246 => ?_)
    · refine lv_iload hx hb dL_law_1251 (lv_at hl 1 rfl) ?_
      refine zb_if_ne (x := zo_r S (zs_ix (xs (nI (i + 1)).toNatClampNeg))) (tgt := 1268) hx hb (by omega) dL_law_1253 (by decide) (fun c_1253 => ?_) (fun c_1253 => ?_)
      · exact absurd hc0 c_1253
      · refine lv_aload_n hx hb dL_law_1256 rfl (lv_at hl 5 rfl) ?_
        refine zb_iconst (n := 0) hx hb dL_law_1257 (by decide) ?_
        refine zld_OL hx hb hK hG (by omega) rfl dL_law_1258 ?_
        refine lv_iload hx hb dL_law_1259 (lv_at hl 0 rfl) ?_
        refine lv_i2l hx hb dL_law_1261 rfl ?_
        refine W.lcmp hx hb dL_law_1262 ?_
        refine lv_if_eq (tgt := 1268) hx hb dL_law_1263 (by decide) (fun c_1263 => ?_) (fun c_1263 => ?_)
        · refine zb_goto (tgt := 2168) hx hb dL_law_1268 (by decide) ?_
          refine zb_iinc (n := 3) (k := 7) (lv' := [(5, .int (nI (i + 3))), (7, .int (nI (S.1 6 (zs_ix (xs (nI (i + 1)).toNatClampNeg)) 0))), (6, .int (nI (zo_r S (zs_ix (xs (nI (i + 1)).toNatClampNeg))))), (0, .ref bq), (1, .ref (ad2 0 0)), (2, .ref (ad2 14 0)), (3, .ref (ad2 33 0)), (4, .ref (ad2 34 0))]) hx hb dL_law_2168 hl rfl (by decide) (by decide) rfl (fun ls hl => ?_)
          refine zb_goto (tgt := 28) hx hb dL_law_2171 (by decide) ?_
          have hcf := hce2
          exact kk _ S _ _ _ _ _ _ _ _ _ hG hS hD2 h62 hy.2 (by omega) (by omega) (lv_sub hl [3, 4, 5, 6, 7, 0] rfl)
        · exact absurd (zl_self _) c_1263
    · exact absurd (by rw [hy.1]) c_1246
  · have h3 : T2 = S := by
      rcases hmo with ⟨h, -⟩ | ⟨-, h⟩
      · exact absurd h hc1
      · exact h
    obtain rfl : S = S2 := h1.symm
    obtain rfl : S = T2 := h3.symm
    refine lv_istore (lv' := [(7, .int r_1235), (6, .int (nI (zo_r S (zs_ix (xs (nI (i + 1)).toNatClampNeg))))), (0, .ref bq), (1, .ref (ad2 0 0)), (2, .ref (ad2 14 0)), (3, .ref (ad2 33 0)), (4, .ref (ad2 34 0)), (5, .int (nI i))]) hx hb dL_law_1238 hl (by decide) rfl (fun ls hl => ?_)
    refine lv_aload_n hx hb dL_law_1240 rfl (lv_at hl 4 rfl) ?_
    refine zc_Vi (As := []) (rest := []) hK hZ hb0 hG hS hx hb hml hown hts (c_X7_thrown l ) (cwV 0 hts gL_law_X7_thrown rfl rfl rfl (by decide +kernel) ⟨Nat.le_of_ble_eq_true rfl, Nat.le_of_ble_eq_true rfl⟩) (za_recv (q := (RX7, TX7, 25)) hK hG 14 0 ⟨by omega, rfl⟩ rfl rfl rfl) rfl hl rfl (Nat.le_of_ble_eq_true rfl) dL_law_1241 ⟨by show _ ≤ 603072; omega, by show _ ≤ 7207018; omega⟩ (fun r_1241 u_1241 H locs hp hG hS => ?_)
    obtain ⟨rfl, rfl⟩ := hp
    refine lv_iload hx hb dL_law_1244 (lv_at hl 1 rfl) ?_
    refine lv_icmp_eq (tgt := 1251) hx hb dL_law_1246 (by decide) (fun c_1246 => ?_) (fun c_1246 => ?_)
    · refine lv_iload hx hb dL_law_1251 (lv_at hl 1 rfl) ?_
      refine zb_if_ne (x := zo_r S (zs_ix (xs (nI (i + 1)).toNatClampNeg))) (tgt := 1268) hx hb (by omega) dL_law_1253 (by decide) (fun c_1253 => ?_) (fun c_1253 => ?_)
      · refine zb_goto (tgt := 2168) hx hb dL_law_1268 (by decide) ?_
        refine zb_iinc (n := 3) (k := 7) (lv' := [(5, .int (nI (i + 3))), (7, .int r_1235), (6, .int (nI (zo_r S (zs_ix (xs (nI (i + 1)).toNatClampNeg))))), (0, .ref bq), (1, .ref (ad2 0 0)), (2, .ref (ad2 14 0)), (3, .ref (ad2 33 0)), (4, .ref (ad2 34 0))]) hx hb dL_law_2168 hl rfl (by decide) (by decide) rfl (fun ls hl => ?_)
        refine zb_goto (tgt := 28) hx hb dL_law_2171 (by decide) ?_
        exact kk _ S _ _ _ _ _ _ _ _ _ hG hS hD2 h62 hy.2 (by omega) (by omega) (lv_sub hl [3, 4, 5, 6, 7, 0] rfl)
      · exact absurd c_1253 hc1
    · exact absurd (by rw [hy.1]) c_1246

set_option maxRecDepth 100000 in
set_option maxHeartbeats 4000000 in
theorem lq_20 {p : Program} {l : Launch} {e : Env} {s : State} {m : MethodId} {below : List Frame} {meth : Method} {c : Code} {bq b L i : Nat} {xs : Nat → Int32} {E : za_E} (hl0 : l.stackTraces = false) (hL : L ≤ 1536) (C0 : lw_At p s m meth c bq L xs) (hK : za_K E s) (hZ : za_Z b s s.heap) (hAO : va_AO RX2 s) (hb0 : b ≤ s.heap.size) (hbA : ¬ za_A b bq) (hi : i + 3 ≤ L) (kk : zl_at p l e s m below meth c bq b E (i + 3))
    {ad : za_Ad} {S X Y : za_S} {ow : Int64} {dw : UInt64} {H : Heap} {locs : List Loc} {k n : Nat} {ls : Array Slot} (hG : za_G E b (ad, S, X, S, Y, ow, dw) H) (hS : va_S (za_A b) s.heap H locs) (hD : zs_D S X) (h6 : zs_6 S) (hY : zs_B Y) (hk : k ≤ 100 + 2 * i + zs_ce S) (hn : n ≤ 29000 + 14 * i + zs_sl S) (hl : lv_has ls 9 [(0, .ref bq), (1, .ref (ad 0 0)), (2, .ref (ad 14 0)), (3, .ref (ad 33 0)), (4, .ref (ad 34 0)), (5, .int (nI i))]) : W p l e room_1 s m #[Value.ref bq] below meth c H locs k n (lw_Z below #[Value.ref bq] s) (F0 m 1271 ls []) := by
  obtain ⟨hx, hb, hr, hml, hown, hts0, hX, hbl, hlocks, hgv⟩ := C0
  have hts : ∀ w ∈ wsL_law, w.before #[Value.ref bq] s = true := fun w h => hts0 w (wsL_law_in w h)
  have hce := zs_ce_le hD.1
  refine lv_aload_n hx hb dL_law_1271 rfl (lv_at hl 1 rfl) ?_
  refine lv_aload_n hx hb dL_law_1272 rfl (lv_at hl 0 rfl) ?_
  refine lv_iload hx hb dL_law_1273 (lv_at hl 5 rfl) ?_
  refine zb_iconst (n := 1) hx hb dL_law_1275 (by decide) ?_
  refine zb_iadd hx hb dL_law_1276 ?_
  refine va_sld hx hb hX hbl hbA hS (vp_in_nI (by omega) (by omega)) dL_law_1277 ?_
  refine lv_aload_n hx hb dL_law_1278 rfl (lv_at hl 0 rfl) ?_
  refine lv_iload hx hb dL_law_1279 (lv_at hl 5 rfl) ?_
  refine zb_iconst (n := 2) hx hb dL_law_1281 (by decide) ?_
  refine zb_iadd hx hb dL_law_1282 ?_
  refine va_sld hx hb hX hbl hbA hS (vp_in_nI (by omega) (by omega)) dL_law_1283 ?_
  refine lv_aload_n hx hb dL_law_1284 rfl (lv_at hl 3 rfl) ?_
  refine zc_LSi (As := [.ref (ad 0 0), .int (xs (nI (i + 1)).toNatClampNeg), .int (xs (nI (i + 2)).toNatClampNeg), .ref (ad 33 0)]) (rest := []) hK hZ hAO hb0 hG hS hx hb hml hown hts (c_L_hears l hl0 (xs (nI (i + 1)).toNatClampNeg) (xs (nI (i + 2)).toNatClampNeg) hD h6) (vx_cwSW 4 hts gL_law_L_hears rfl rfl rfl (by decide +kernel) ⟨Nat.le_of_ble_eq_true rfl, Nat.le_of_ble_eq_true rfl⟩) rfl hl rfl (Nat.le_of_ble_eq_true rfl) dL_law_1285 ⟨by show _ ≤ 603072; omega, by show _ ≤ 7207018; omega⟩ (fun r_1285 u_1285 H locs hp hG hS => ?_)
  obtain ⟨ad2, S2, X2, ow2, rfl, rfl, hsm, hD2, h62, hal⟩ := hp
  have hCb : zo_pp S (zs_ix (xs (nI (i + 1)).toNatClampNeg)) (zs_ix (xs (nI (i + 2)).toNatClampNeg)) < 2 ^ 31 := by
    unfold zo_pp
    repeat' split
    all_goals decide
  rw [← hsm 0 (by omega), ← hsm 14 (by omega), ← hsm 33 (by omega), ← hsm 34 (by omega)] at hl
  refine lv_istore (lv' := [(6, .int (nI (zo_pp S (zs_ix (xs (nI (i + 1)).toNatClampNeg)) (zs_ix (xs (nI (i + 2)).toNatClampNeg))))), (0, .ref bq), (1, .ref (ad2 0 0)), (2, .ref (ad2 14 0)), (3, .ref (ad2 33 0)), (4, .ref (ad2 34 0)), (5, .int (nI i))]) hx hb dL_law_1288 hl (by decide) rfl (fun ls hl => ?_)
  refine lv_aload_n hx hb dL_law_1290 rfl (lv_at hl 3 rfl) ?_
  refine lv_aload_n hx hb dL_law_1291 rfl (lv_at hl 1 rfl) ?_
  refine lv_iload hx hb dL_law_1292 (lv_at hl 6 rfl) ?_
  refine zb_iconst (n := 1) hx hb dL_law_1294 (by decide) ?_
  refine zb_iadd hx hb dL_law_1295 ?_
  refine va_sld hx hb hX hbl hbA hS (vp_in_nI (by omega) (by omega)) dL_law_1296 ?_
  refine lv_aload_n hx hb dL_law_1297 rfl (lv_at hl 1 rfl) ?_
  refine lv_iload hx hb dL_law_1298 (lv_at hl 6 rfl) ?_
  refine zb_iconst (n := 2) hx hb dL_law_1300 (by decide) ?_
  refine zb_iadd hx hb dL_law_1301 ?_
  refine va_sld hx hb hX hbl hbA hS (vp_in_nI (by omega) (by omega)) dL_law_1302 ?_
  refine zc_Vi (As := [.int (xs (nI (i + 1)).toNatClampNeg), .int (xs (nI (i + 2)).toNatClampNeg)]) (rest := []) hK hZ hb0 hG hS hx hb hml hown hts (c_X7_hears l (xs (nI (i + 1)).toNatClampNeg) (xs (nI (i + 2)).toNatClampNeg) (zw_D.M hD h6 hY)) (cwV 2 hts gL_law_X7_hears rfl rfl rfl (by decide +kernel) ⟨Nat.le_of_ble_eq_true rfl, Nat.le_of_ble_eq_true rfl⟩) (za_recv (q := (RX7, TX7, 25)) hK hG 14 0 ⟨by omega, rfl⟩ rfl rfl rfl) rfl hl rfl (Nat.le_of_ble_eq_true rfl) dL_law_1303 ⟨by show _ ≤ 603072; omega, by show _ ≤ 7207018; omega⟩ (fun r_1303 u_1303 H locs hp hG hS => ?_)
  obtain ⟨T2, Y2, rfl, hy, hmo⟩ := hp
  rcases hal with ⟨hc0, h1, h2⟩ | ⟨hc1, h1⟩
  · obtain ⟨-, h3, h4⟩ : zo_pp S (zs_ix (xs (nI (i + 1)).toNatClampNeg)) (zs_ix (xs (nI (i + 2)).toNatClampNeg)) = 0 ∧ T2 = S ∧ r_1303 = nI (if zo_he S (zs_ix (xs (nI (i + 1)).toNatClampNeg)) (zs_ix (xs (nI (i + 2)).toNatClampNeg)) = true then 1 else 0) := by
      rcases hmo with h | ⟨h, -⟩
      · exact h
      · exact absurd hc0 h
    have hce2 : zs_ce S ≤ zs_ce S ∧ zs_sl S ≤ zs_sl S := ⟨Nat.le_refl _, Nat.le_refl _⟩
    obtain rfl : S = S2 := h1.symm
    obtain rfl : S = T2 := h3.symm
    subst h2
    subst h4
    have hbz : (if zo_he S (zs_ix (xs (nI (i + 1)).toNatClampNeg)) (zs_ix (xs (nI (i + 2)).toNatClampNeg)) = true then 1 else 0) < 2 ^ 31 := by split <;> decide
    refine lv_istore (lv' := [(7, .int (nI (if zo_he S (zs_ix (xs (nI (i + 1)).toNatClampNeg)) (zs_ix (xs (nI (i + 2)).toNatClampNeg)) = true then 1 else 0))), (6, .int (nI (zo_pp S (zs_ix (xs (nI (i + 1)).toNatClampNeg)) (zs_ix (xs (nI (i + 2)).toNatClampNeg))))), (0, .ref bq), (1, .ref (ad2 0 0)), (2, .ref (ad2 14 0)), (3, .ref (ad2 33 0)), (4, .ref (ad2 34 0)), (5, .int (nI i))]) hx hb dL_law_1306 hl (by decide) rfl (fun ls hl => ?_)
    refine lv_aload_n hx hb dL_law_1308 rfl (lv_at hl 4 rfl) ?_
    refine zc_Vi (As := []) (rest := []) hK hZ hb0 hG hS hx hb hml hown hts (c_X7_thrown l ) (cwV 0 hts gL_law_X7_thrown rfl rfl rfl (by decide +kernel) ⟨Nat.le_of_ble_eq_true rfl, Nat.le_of_ble_eq_true rfl⟩) (za_recv (q := (RX7, TX7, 25)) hK hG 14 0 ⟨by omega, rfl⟩ rfl rfl rfl) rfl hl rfl (Nat.le_of_ble_eq_true rfl) dL_law_1309 ⟨by show _ ≤ 603072; omega, by show _ ≤ 7207018; omega⟩ (fun r_1309 u_1309 H locs hp hG hS => ?_)
    obtain ⟨rfl, rfl⟩ := hp
    refine lv_iload hx hb dL_law_1312 (lv_at hl 1 rfl) ?_
    refine lv_icmp_eq (tgt := 1319) hx hb dL_law_1314 (by decide) (fun c_1314 => ?_) (fun c_1314 => ?_)
    · refine lv_iload hx hb dL_law_1319 (lv_at hl 1 rfl) ?_
      refine zb_if_ne (x := zo_pp S (zs_ix (xs (nI (i + 1)).toNatClampNeg)) (zs_ix (xs (nI (i + 2)).toNatClampNeg))) (tgt := 1343) hx hb (by omega) dL_law_1321 (by decide) (fun c_1321 => ?_) (fun c_1321 => ?_)
      · exact absurd hc0 c_1321
      · refine lv_aload_n hx hb dL_law_1324 rfl (lv_at hl 5 rfl) ?_
        refine zb_iconst (n := 0) hx hb dL_law_1325 (by decide) ?_
        refine zld_OL hx hb hK hG (by omega) rfl dL_law_1326 ?_
        refine lv_iload hx hb dL_law_1327 (lv_at hl 0 rfl) ?_
        refine zb_if_eq (x := if zo_he S (zs_ix (xs (nI (i + 1)).toNatClampNeg)) (zs_ix (xs (nI (i + 2)).toNatClampNeg)) = true then 1 else 0) (tgt := 1336) hx hb (by omega) dL_law_1329 (by decide) (fun c_1329 => ?_) (fun c_1329 => ?_)
        · refine lv_lconst (v := lN 0) hx hb dL_law_1336 (by decide) ?_
          refine W.lcmp hx hb dL_law_1337 ?_
          refine lv_if_eq (tgt := 1343) hx hb dL_law_1338 (by decide) (fun c_1338 => ?_) (fun c_1338 => ?_)
          · refine zb_goto (tgt := 2168) hx hb dL_law_1343 (by decide) ?_
            refine zb_iinc (n := 3) (k := 7) (lv' := [(5, .int (nI (i + 3))), (7, .int (nI (if zo_he S (zs_ix (xs (nI (i + 1)).toNatClampNeg)) (zs_ix (xs (nI (i + 2)).toNatClampNeg)) = true then 1 else 0))), (6, .int (nI (zo_pp S (zs_ix (xs (nI (i + 1)).toNatClampNeg)) (zs_ix (xs (nI (i + 2)).toNatClampNeg))))), (0, .ref bq), (1, .ref (ad2 0 0)), (2, .ref (ad2 14 0)), (3, .ref (ad2 33 0)), (4, .ref (ad2 34 0))]) hx hb dL_law_2168 hl rfl (by decide) (by decide) rfl (fun ls hl => ?_)
            refine zb_goto (tgt := 28) hx hb dL_law_2171 (by decide) ?_
            have hcf := hce2
            exact kk _ S _ _ _ _ _ _ _ _ _ hG hS hD2 h62 hy.2 (by omega) (by omega) (lv_sub hl [3, 4, 5, 6, 7, 0] rfl)
          · exact absurd (by first | (rw [if_pos (zs_b1 c_1329)]; exact zl_self _) | (rw [c_1329]; exact zl_self _)) c_1338
        · refine lv_lconst (v := lN 1) hx hb dL_law_1332 (by decide) ?_
          refine zb_goto (tgt := 1337) hx hb dL_law_1333 (by decide) ?_
          refine W.lcmp hx hb dL_law_1337 ?_
          refine lv_if_eq (tgt := 1343) hx hb dL_law_1338 (by decide) (fun c_1338 => ?_) (fun c_1338 => ?_)
          · refine zb_goto (tgt := 2168) hx hb dL_law_1343 (by decide) ?_
            refine zb_iinc (n := 3) (k := 7) (lv' := [(5, .int (nI (i + 3))), (7, .int (nI (if zo_he S (zs_ix (xs (nI (i + 1)).toNatClampNeg)) (zs_ix (xs (nI (i + 2)).toNatClampNeg)) = true then 1 else 0))), (6, .int (nI (zo_pp S (zs_ix (xs (nI (i + 1)).toNatClampNeg)) (zs_ix (xs (nI (i + 2)).toNatClampNeg))))), (0, .ref bq), (1, .ref (ad2 0 0)), (2, .ref (ad2 14 0)), (3, .ref (ad2 33 0)), (4, .ref (ad2 34 0))]) hx hb dL_law_2168 hl rfl (by decide) (by decide) rfl (fun ls hl => ?_)
            refine zb_goto (tgt := 28) hx hb dL_law_2171 (by decide) ?_
            have hcf := hce2
            exact kk _ S _ _ _ _ _ _ _ _ _ hG hS hD2 h62 hy.2 (by omega) (by omega) (lv_sub hl [3, 4, 5, 6, 7, 0] rfl)
          · exact absurd (by first | (rw [if_pos (zs_b1 c_1329)]; exact zl_self _) | (rw [c_1329]; exact zl_self _)) c_1338
    · exact absurd (by rw [hy.1]) c_1314
  · have h3 : T2 = S := by
      rcases hmo with ⟨h, -⟩ | ⟨-, h⟩
      · exact absurd h hc1
      · exact h
    obtain rfl : S = S2 := h1.symm
    obtain rfl : S = T2 := h3.symm
    refine lv_istore (lv' := [(7, .int r_1303), (6, .int (nI (zo_pp S (zs_ix (xs (nI (i + 1)).toNatClampNeg)) (zs_ix (xs (nI (i + 2)).toNatClampNeg))))), (0, .ref bq), (1, .ref (ad2 0 0)), (2, .ref (ad2 14 0)), (3, .ref (ad2 33 0)), (4, .ref (ad2 34 0)), (5, .int (nI i))]) hx hb dL_law_1306 hl (by decide) rfl (fun ls hl => ?_)
    refine lv_aload_n hx hb dL_law_1308 rfl (lv_at hl 4 rfl) ?_
    refine zc_Vi (As := []) (rest := []) hK hZ hb0 hG hS hx hb hml hown hts (c_X7_thrown l ) (cwV 0 hts gL_law_X7_thrown rfl rfl rfl (by decide +kernel) ⟨Nat.le_of_ble_eq_true rfl, Nat.le_of_ble_eq_true rfl⟩) (za_recv (q := (RX7, TX7, 25)) hK hG 14 0 ⟨by omega, rfl⟩ rfl rfl rfl) rfl hl rfl (Nat.le_of_ble_eq_true rfl) dL_law_1309 ⟨by show _ ≤ 603072; omega, by show _ ≤ 7207018; omega⟩ (fun r_1309 u_1309 H locs hp hG hS => ?_)
    obtain ⟨rfl, rfl⟩ := hp
    refine lv_iload hx hb dL_law_1312 (lv_at hl 1 rfl) ?_
    refine lv_icmp_eq (tgt := 1319) hx hb dL_law_1314 (by decide) (fun c_1314 => ?_) (fun c_1314 => ?_)
    · refine lv_iload hx hb dL_law_1319 (lv_at hl 1 rfl) ?_
      refine zb_if_ne (x := zo_pp S (zs_ix (xs (nI (i + 1)).toNatClampNeg)) (zs_ix (xs (nI (i + 2)).toNatClampNeg))) (tgt := 1343) hx hb (by omega) dL_law_1321 (by decide) (fun c_1321 => ?_) (fun c_1321 => ?_)
      · refine zb_goto (tgt := 2168) hx hb dL_law_1343 (by decide) ?_
        refine zb_iinc (n := 3) (k := 7) (lv' := [(5, .int (nI (i + 3))), (7, .int r_1303), (6, .int (nI (zo_pp S (zs_ix (xs (nI (i + 1)).toNatClampNeg)) (zs_ix (xs (nI (i + 2)).toNatClampNeg))))), (0, .ref bq), (1, .ref (ad2 0 0)), (2, .ref (ad2 14 0)), (3, .ref (ad2 33 0)), (4, .ref (ad2 34 0))]) hx hb dL_law_2168 hl rfl (by decide) (by decide) rfl (fun ls hl => ?_)
        refine zb_goto (tgt := 28) hx hb dL_law_2171 (by decide) ?_
        exact kk _ S _ _ _ _ _ _ _ _ _ hG hS hD2 h62 hy.2 (by omega) (by omega) (lv_sub hl [3, 4, 5, 6, 7, 0] rfl)
      · exact absurd c_1321 hc1
    · exact absurd (by rw [hy.1]) c_1314

set_option maxRecDepth 100000 in
set_option maxHeartbeats 4000000 in
theorem lq_21 {p : Program} {l : Launch} {e : Env} {s : State} {m : MethodId} {below : List Frame} {meth : Method} {c : Code} {bq b L i : Nat} {xs : Nat → Int32} {E : za_E} (hl0 : l.stackTraces = false) (hL : L ≤ 1536) (C0 : lw_At p s m meth c bq L xs) (hK : za_K E s) (hZ : za_Z b s s.heap) (hAO : va_AO RX2 s) (hb0 : b ≤ s.heap.size) (hbA : ¬ za_A b bq) (hi : i + 3 ≤ L) (kk : zl_at p l e s m below meth c bq b E (i + 3))
    {ad : za_Ad} {S X Y : za_S} {ow : Int64} {dw : UInt64} {H : Heap} {locs : List Loc} {k n : Nat} {ls : Array Slot} (hG : za_G E b (ad, S, X, S, Y, ow, dw) H) (hS : va_S (za_A b) s.heap H locs) (hD : zs_D S X) (h6 : zs_6 S) (hY : zs_B Y) (hk : k ≤ 100 + 2 * i + zs_ce S) (hn : n ≤ 29000 + 14 * i + zs_sl S) (hl : lv_has ls 9 [(0, .ref bq), (1, .ref (ad 0 0)), (2, .ref (ad 14 0)), (3, .ref (ad 33 0)), (4, .ref (ad 34 0)), (5, .int (nI i))]) : W p l e room_1 s m #[Value.ref bq] below meth c H locs k n (lw_Z below #[Value.ref bq] s) (F0 m 1346 ls []) := by
  obtain ⟨hx, hb, hr, hml, hown, hts0, hX, hbl, hlocks, hgv⟩ := C0
  have hts : ∀ w ∈ wsL_law, w.before #[Value.ref bq] s = true := fun w h => hts0 w (wsL_law_in w h)
  have hce := zs_ce_le hD.1
  refine lv_aload_n hx hb dL_law_1346 rfl (lv_at hl 1 rfl) ?_
  refine lv_aload_n hx hb dL_law_1347 rfl (lv_at hl 0 rfl) ?_
  refine lv_iload hx hb dL_law_1348 (lv_at hl 5 rfl) ?_
  refine zb_iconst (n := 1) hx hb dL_law_1350 (by decide) ?_
  refine zb_iadd hx hb dL_law_1351 ?_
  refine va_sld hx hb hX hbl hbA hS (vp_in_nI (by omega) (by omega)) dL_law_1352 ?_
  refine lv_aload_n hx hb dL_law_1353 rfl (lv_at hl 3 rfl) ?_
  refine zc_LSi (As := [.ref (ad 0 0), .int (xs (nI (i + 1)).toNatClampNeg), .ref (ad 33 0)]) (rest := []) hK hZ hAO hb0 hG hS hx hb hml hown hts (c_L_talked l hl0 (xs (nI (i + 1)).toNatClampNeg) hD h6) (vx_cwSW 3 hts gL_law_L_talked rfl rfl rfl (by decide +kernel) ⟨Nat.le_of_ble_eq_true rfl, Nat.le_of_ble_eq_true rfl⟩) rfl hl rfl (Nat.le_of_ble_eq_true rfl) dL_law_1354 ⟨by show _ ≤ 603072; omega, by show _ ≤ 7207018; omega⟩ (fun r_1354 u_1354 H locs hp hG hS => ?_)
  obtain ⟨ad2, S2, X2, ow2, rfl, rfl, hsm, hD2, h62, hal⟩ := hp
  have hCb : zo_p S (zs_ix (xs (nI (i + 1)).toNatClampNeg)) < 2 ^ 31 := by
    unfold zo_p
    repeat' split
    all_goals decide
  rw [← hsm 0 (by omega), ← hsm 14 (by omega), ← hsm 33 (by omega), ← hsm 34 (by omega)] at hl
  refine lv_istore (lv' := [(6, .int (nI (zo_p S (zs_ix (xs (nI (i + 1)).toNatClampNeg))))), (0, .ref bq), (1, .ref (ad2 0 0)), (2, .ref (ad2 14 0)), (3, .ref (ad2 33 0)), (4, .ref (ad2 34 0)), (5, .int (nI i))]) hx hb dL_law_1357 hl (by decide) rfl (fun ls hl => ?_)
  refine lv_aload_n hx hb dL_law_1359 rfl (lv_at hl 3 rfl) ?_
  refine lv_aload_n hx hb dL_law_1360 rfl (lv_at hl 1 rfl) ?_
  refine lv_iload hx hb dL_law_1361 (lv_at hl 6 rfl) ?_
  refine zb_iconst (n := 1) hx hb dL_law_1363 (by decide) ?_
  refine zb_iadd hx hb dL_law_1364 ?_
  refine va_sld hx hb hX hbl hbA hS (vp_in_nI (by omega) (by omega)) dL_law_1365 ?_
  refine zc_Vl (As := [.int (xs (nI (i + 1)).toNatClampNeg)]) (rest := []) hK hZ hb0 hG hS hx hb hml hown hts (c_X7_talked l (xs (nI (i + 1)).toNatClampNeg) (zw_D.M hD h6 hY)) (cwV 1 hts gL_law_X7_talked rfl rfl rfl (by decide +kernel) ⟨Nat.le_of_ble_eq_true rfl, Nat.le_of_ble_eq_true rfl⟩) (za_recv (q := (RX7, TX7, 25)) hK hG 14 0 ⟨by omega, rfl⟩ rfl rfl rfl) rfl hl rfl (Nat.le_of_ble_eq_true rfl) dL_law_1366 ⟨by show _ ≤ 603072; omega, by show _ ≤ 7207018; omega⟩ (fun r_1366 u_1366 H locs hp hG hS => ?_)
  obtain ⟨T2, Y2, rfl, hy, hmo⟩ := hp
  rcases hal with ⟨hc0, h1, h2⟩ | ⟨hc1, h1⟩
  · obtain ⟨-, h3, h4⟩ : zo_p S (zs_ix (xs (nI (i + 1)).toNatClampNeg)) = 0 ∧ T2 = S ∧ r_1366 = lN (S.1 4 (zs_ix (xs (nI (i + 1)).toNatClampNeg)) 0) := by
      rcases hmo with h | ⟨h, -⟩
      · exact h
      · exact absurd hc0 h
    have hce2 : zs_ce S ≤ zs_ce S ∧ zs_sl S ≤ zs_sl S := ⟨Nat.le_refl _, Nat.le_refl _⟩
    obtain rfl : S = S2 := h1.symm
    obtain rfl : S = T2 := h3.symm
    subst h2
    subst h4
    refine lv_lstore (lv' := [(7, .long (lN (S.1 4 (zs_ix (xs (nI (i + 1)).toNatClampNeg)) 0))), (6, .int (nI (zo_p S (zs_ix (xs (nI (i + 1)).toNatClampNeg))))), (0, .ref bq), (1, .ref (ad2 0 0)), (2, .ref (ad2 14 0)), (3, .ref (ad2 33 0)), (4, .ref (ad2 34 0)), (5, .int (nI i))]) hx hb dL_law_1369 hl (by decide) rfl (fun ls hl => ?_)
    refine lv_aload_n hx hb dL_law_1371 rfl (lv_at hl 4 rfl) ?_
    refine zc_Vi (As := []) (rest := []) hK hZ hb0 hG hS hx hb hml hown hts (c_X7_thrown l ) (cwV 0 hts gL_law_X7_thrown rfl rfl rfl (by decide +kernel) ⟨Nat.le_of_ble_eq_true rfl, Nat.le_of_ble_eq_true rfl⟩) (za_recv (q := (RX7, TX7, 25)) hK hG 14 0 ⟨by omega, rfl⟩ rfl rfl rfl) rfl hl rfl (Nat.le_of_ble_eq_true rfl) dL_law_1372 ⟨by show _ ≤ 603072; omega, by show _ ≤ 7207018; omega⟩ (fun r_1372 u_1372 H locs hp hG hS => ?_)
    obtain ⟨rfl, rfl⟩ := hp
    refine lv_iload hx hb dL_law_1375 (lv_at hl 1 rfl) ?_
    refine lv_icmp_eq (tgt := 1382) hx hb dL_law_1377 (by decide) (fun c_1377 => ?_) (fun c_1377 => ?_)
    · refine lv_iload hx hb dL_law_1382 (lv_at hl 1 rfl) ?_
      refine zb_if_ne (x := zo_p S (zs_ix (xs (nI (i + 1)).toNatClampNeg))) (tgt := 1398) hx hb (by omega) dL_law_1384 (by decide) (fun c_1384 => ?_) (fun c_1384 => ?_)
      · exact absurd hc0 c_1384
      · refine lv_aload_n hx hb dL_law_1387 rfl (lv_at hl 5 rfl) ?_
        refine zb_iconst (n := 0) hx hb dL_law_1388 (by decide) ?_
        refine zld_OL hx hb hK hG (by omega) rfl dL_law_1389 ?_
        refine lv_lload hx hb dL_law_1390 (lv_at hl 0 rfl) ?_
        refine W.lcmp hx hb dL_law_1392 ?_
        refine lv_if_eq (tgt := 1398) hx hb dL_law_1393 (by decide) (fun c_1393 => ?_) (fun c_1393 => ?_)
        · refine zb_goto (tgt := 2168) hx hb dL_law_1398 (by decide) ?_
          refine zb_iinc (n := 3) (k := 7) (lv' := [(5, .int (nI (i + 3))), (7, .long (lN (S.1 4 (zs_ix (xs (nI (i + 1)).toNatClampNeg)) 0))), (6, .int (nI (zo_p S (zs_ix (xs (nI (i + 1)).toNatClampNeg))))), (0, .ref bq), (1, .ref (ad2 0 0)), (2, .ref (ad2 14 0)), (3, .ref (ad2 33 0)), (4, .ref (ad2 34 0))]) hx hb dL_law_2168 hl rfl (by decide) (by decide) rfl (fun ls hl => ?_)
          refine zb_goto (tgt := 28) hx hb dL_law_2171 (by decide) ?_
          have hcf := hce2
          exact kk _ S _ _ _ _ _ _ _ _ _ hG hS hD2 h62 hy.2 (by omega) (by omega) (lv_sub hl [3, 4, 5, 6, 7, 0] rfl)
        · exact absurd (zl_self _) c_1393
    · exact absurd (by rw [hy.1]) c_1377
  · have h3 : T2 = S := by
      rcases hmo with ⟨h, -⟩ | ⟨-, h⟩
      · exact absurd h hc1
      · exact h
    obtain rfl : S = S2 := h1.symm
    obtain rfl : S = T2 := h3.symm
    refine lv_lstore (lv' := [(7, .long r_1366), (6, .int (nI (zo_p S (zs_ix (xs (nI (i + 1)).toNatClampNeg))))), (0, .ref bq), (1, .ref (ad2 0 0)), (2, .ref (ad2 14 0)), (3, .ref (ad2 33 0)), (4, .ref (ad2 34 0)), (5, .int (nI i))]) hx hb dL_law_1369 hl (by decide) rfl (fun ls hl => ?_)
    refine lv_aload_n hx hb dL_law_1371 rfl (lv_at hl 4 rfl) ?_
    refine zc_Vi (As := []) (rest := []) hK hZ hb0 hG hS hx hb hml hown hts (c_X7_thrown l ) (cwV 0 hts gL_law_X7_thrown rfl rfl rfl (by decide +kernel) ⟨Nat.le_of_ble_eq_true rfl, Nat.le_of_ble_eq_true rfl⟩) (za_recv (q := (RX7, TX7, 25)) hK hG 14 0 ⟨by omega, rfl⟩ rfl rfl rfl) rfl hl rfl (Nat.le_of_ble_eq_true rfl) dL_law_1372 ⟨by show _ ≤ 603072; omega, by show _ ≤ 7207018; omega⟩ (fun r_1372 u_1372 H locs hp hG hS => ?_)
    obtain ⟨rfl, rfl⟩ := hp
    refine lv_iload hx hb dL_law_1375 (lv_at hl 1 rfl) ?_
    refine lv_icmp_eq (tgt := 1382) hx hb dL_law_1377 (by decide) (fun c_1377 => ?_) (fun c_1377 => ?_)
    · refine lv_iload hx hb dL_law_1382 (lv_at hl 1 rfl) ?_
      refine zb_if_ne (x := zo_p S (zs_ix (xs (nI (i + 1)).toNatClampNeg))) (tgt := 1398) hx hb (by omega) dL_law_1384 (by decide) (fun c_1384 => ?_) (fun c_1384 => ?_)
      · refine zb_goto (tgt := 2168) hx hb dL_law_1398 (by decide) ?_
        refine zb_iinc (n := 3) (k := 7) (lv' := [(5, .int (nI (i + 3))), (7, .long r_1366), (6, .int (nI (zo_p S (zs_ix (xs (nI (i + 1)).toNatClampNeg))))), (0, .ref bq), (1, .ref (ad2 0 0)), (2, .ref (ad2 14 0)), (3, .ref (ad2 33 0)), (4, .ref (ad2 34 0))]) hx hb dL_law_2168 hl rfl (by decide) (by decide) rfl (fun ls hl => ?_)
        refine zb_goto (tgt := 28) hx hb dL_law_2171 (by decide) ?_
        exact kk _ S _ _ _ _ _ _ _ _ _ hG hS hD2 h62 hy.2 (by omega) (by omega) (lv_sub hl [3, 4, 5, 6, 7, 0] rfl)
      · exact absurd c_1384 hc1
    · exact absurd (by rw [hy.1]) c_1377

set_option maxRecDepth 100000 in
set_option maxHeartbeats 4000000 in
theorem lq_22 {p : Program} {l : Launch} {e : Env} {s : State} {m : MethodId} {below : List Frame} {meth : Method} {c : Code} {bq b L i : Nat} {xs : Nat → Int32} {E : za_E} (hl0 : l.stackTraces = false) (hL : L ≤ 1536) (C0 : lw_At p s m meth c bq L xs) (hK : za_K E s) (hZ : za_Z b s s.heap) (hAO : va_AO RX2 s) (hb0 : b ≤ s.heap.size) (hbA : ¬ za_A b bq) (hi : i + 3 ≤ L) (kk : zl_at p l e s m below meth c bq b E (i + 3))
    {ad : za_Ad} {S X Y : za_S} {ow : Int64} {dw : UInt64} {H : Heap} {locs : List Loc} {k n : Nat} {ls : Array Slot} (hG : za_G E b (ad, S, X, S, Y, ow, dw) H) (hS : va_S (za_A b) s.heap H locs) (hD : zs_D S X) (h6 : zs_6 S) (hY : zs_B Y) (hk : k ≤ 100 + 2 * i + zs_ce S) (hn : n ≤ 29000 + 14 * i + zs_sl S) (hl : lv_has ls 9 [(0, .ref bq), (1, .ref (ad 0 0)), (2, .ref (ad 14 0)), (3, .ref (ad 33 0)), (4, .ref (ad 34 0)), (5, .int (nI i))]) : W p l e room_1 s m #[Value.ref bq] below meth c H locs k n (lw_Z below #[Value.ref bq] s) (F0 m 1401 ls []) := by
  obtain ⟨hx, hb, hr, hml, hown, hts0, hX, hbl, hlocks, hgv⟩ := C0
  have hts : ∀ w ∈ wsL_law, w.before #[Value.ref bq] s = true := fun w h => hts0 w (wsL_law_in w h)
  have hce := zs_ce_le hD.1
  refine lv_aload_n hx hb dL_law_1401 rfl (lv_at hl 1 rfl) ?_
  refine zc_Vi (As := []) (rest := []) hK hZ hb0 hG hS hx hb hml hown hts (c_X6_changes l hD.C) (cwV 0 hts gL_law_X6_changes rfl rfl rfl (by decide +kernel) ⟨Nat.le_of_ble_eq_true rfl, Nat.le_of_ble_eq_true rfl⟩) (za_recv (q := (RX6, TX6, 11)) hK hG 0 0 ⟨by omega, rfl⟩ rfl rfl rfl) rfl hl rfl (Nat.le_of_ble_eq_true rfl) dL_law_1402 ⟨by show _ ≤ 603072; omega, by show _ ≤ 7207018; omega⟩ (fun r_1402 u_1402 H locs hp hG hS => ?_)
  obtain ⟨rfl, rfl⟩ := hp
  refine lv_aload_n hx hb dL_law_1405 rfl (lv_at hl 2 rfl) ?_
  refine zc_Vi (As := []) (rest := [.int (nI (S.1 7 8 0))]) hK hZ hb0 hG hS hx hb hml hown hts (c_X7_changes l (zw_D.M hD h6 hY)) (cwV 0 hts gL_law_X7_changes rfl rfl rfl (by decide +kernel) ⟨Nat.le_of_ble_eq_true rfl, Nat.le_of_ble_eq_true rfl⟩) (za_recv (q := (RX7, TX7, 25)) hK hG 14 0 ⟨by omega, rfl⟩ rfl rfl rfl) rfl hl rfl (Nat.le_of_ble_eq_true rfl) dL_law_1406 ⟨by show _ ≤ 603072; omega, by show _ ≤ 7207018; omega⟩ (fun r_1406 u_1406 H locs hp hG hS => ?_)
  obtain ⟨T2, Y2, rfl, hy, hmo⟩ := hp
  obtain ⟨h1, h2⟩ : T2 = S ∧ r_1406 = nI (S.1 7 8 0) := by
    rcases hmo with h | ⟨h, -⟩
    · exact h.2
    · exact absurd rfl h
  obtain rfl : S = T2 := h1.symm
  subst h2
  refine lv_icmp_eq (tgt := 2168) hx hb dL_law_1409 (by decide) (fun c_1409 => ?_) (fun c_1409 => ?_)
  · refine zb_iinc (n := 3) (k := 5) (lv' := [(5, .int (nI (i + 3))), (0, .ref bq), (1, .ref (ad 0 0)), (2, .ref (ad 14 0)), (3, .ref (ad 33 0)), (4, .ref (ad 34 0))]) hx hb dL_law_2168 hl rfl (by decide) (by decide) rfl (fun ls hl => ?_)
    refine zb_goto (tgt := 28) hx hb dL_law_2171 (by decide) ?_
    exact kk _ S _ _ _ _ _ _ _ _ _ hG hS hD h6 hy.2 (by omega) (by omega) (lv_sub hl [1, 2, 3, 4, 5, 0] rfl)
  · exact absurd rfl c_1409

set_option maxRecDepth 100000 in
set_option maxHeartbeats 4000000 in
theorem lq_23 {p : Program} {l : Launch} {e : Env} {s : State} {m : MethodId} {below : List Frame} {meth : Method} {c : Code} {bq b L i : Nat} {xs : Nat → Int32} {E : za_E} (hl0 : l.stackTraces = false) (hL : L ≤ 1536) (C0 : lw_At p s m meth c bq L xs) (hK : za_K E s) (hZ : za_Z b s s.heap) (hAO : va_AO RX2 s) (hb0 : b ≤ s.heap.size) (hbA : ¬ za_A b bq) (hi : i + 3 ≤ L) (kk : zl_at p l e s m below meth c bq b E (i + 3))
    {ad : za_Ad} {S X Y : za_S} {ow : Int64} {dw : UInt64} {H : Heap} {locs : List Loc} {k n : Nat} {ls : Array Slot} (hG : za_G E b (ad, S, X, S, Y, ow, dw) H) (hS : va_S (za_A b) s.heap H locs) (hD : zs_D S X) (h6 : zs_6 S) (hY : zs_B Y) (hk : k ≤ 100 + 2 * i + zs_ce S) (hn : n ≤ 29000 + 14 * i + zs_sl S) (hl : lv_has ls 9 [(0, .ref bq), (1, .ref (ad 0 0)), (2, .ref (ad 14 0)), (3, .ref (ad 33 0)), (4, .ref (ad 34 0)), (5, .int (nI i))]) : W p l e room_1 s m #[Value.ref bq] below meth c H locs k n (lw_Z below #[Value.ref bq] s) (F0 m 1414 ls []) := by
  obtain ⟨hx, hb, hr, hml, hown, hts0, hX, hbl, hlocks, hgv⟩ := C0
  have hts : ∀ w ∈ wsL_law, w.before #[Value.ref bq] s = true := fun w h => hts0 w (wsL_law_in w h)
  have hce := zs_ce_le hD.1
  refine lv_aload_n hx hb dL_law_1414 rfl (lv_at hl 1 rfl) ?_
  refine lv_aload_n hx hb dL_law_1415 rfl (lv_at hl 0 rfl) ?_
  refine lv_iload hx hb dL_law_1416 (lv_at hl 5 rfl) ?_
  refine zb_iconst (n := 1) hx hb dL_law_1418 (by decide) ?_
  refine zb_iadd hx hb dL_law_1419 ?_
  refine va_sld hx hb hX hbl hbA hS (vp_in_nI (by omega) (by omega)) dL_law_1420 ?_
  refine lv_aload_n hx hb dL_law_1421 rfl (lv_at hl 3 rfl) ?_
  refine zc_LSi (As := [.ref (ad 0 0), .int (xs (nI (i + 1)).toNatClampNeg), .ref (ad 33 0)]) (rest := []) hK hZ hAO hb0 hG hS hx hb hml hown hts (c_L_turnAt l hl0 (xs (nI (i + 1)).toNatClampNeg) hD h6) (vx_cwSW 3 hts gL_law_L_turnAt rfl rfl rfl (by decide +kernel) ⟨Nat.le_of_ble_eq_true rfl, Nat.le_of_ble_eq_true rfl⟩) rfl hl rfl (Nat.le_of_ble_eq_true rfl) dL_law_1422 ⟨by show _ ≤ 603072; omega, by show _ ≤ 7207018; omega⟩ (fun r_1422 u_1422 H locs hp hG hS => ?_)
  obtain ⟨ad2, S2, X2, ow2, rfl, rfl, hsm, hD2, h62, hal⟩ := hp
  have hCb : zo_t S (zs_ix (xs (nI (i + 1)).toNatClampNeg)) < 2 ^ 31 := by
    unfold zo_t
    repeat' split
    all_goals decide
  rw [← hsm 0 (by omega), ← hsm 14 (by omega), ← hsm 33 (by omega), ← hsm 34 (by omega)] at hl
  refine lv_istore (lv' := [(6, .int (nI (zo_t S (zs_ix (xs (nI (i + 1)).toNatClampNeg))))), (0, .ref bq), (1, .ref (ad2 0 0)), (2, .ref (ad2 14 0)), (3, .ref (ad2 33 0)), (4, .ref (ad2 34 0)), (5, .int (nI i))]) hx hb dL_law_1425 hl (by decide) rfl (fun ls hl => ?_)
  refine lv_aload_n hx hb dL_law_1427 rfl (lv_at hl 3 rfl) ?_
  refine lv_aload_n hx hb dL_law_1428 rfl (lv_at hl 1 rfl) ?_
  refine lv_iload hx hb dL_law_1429 (lv_at hl 6 rfl) ?_
  refine zb_iconst (n := 1) hx hb dL_law_1431 (by decide) ?_
  refine zb_iadd hx hb dL_law_1432 ?_
  refine va_sld hx hb hX hbl hbA hS (vp_in_nI (by omega) (by omega)) dL_law_1433 ?_
  refine zc_Vi (As := [.int (xs (nI (i + 1)).toNatClampNeg)]) (rest := []) hK hZ hb0 hG hS hx hb hml hown hts (c_X7_turnAt l (xs (nI (i + 1)).toNatClampNeg) (zw_D.M hD h6 hY)) (cwV 1 hts gL_law_X7_turnAt rfl rfl rfl (by decide +kernel) ⟨Nat.le_of_ble_eq_true rfl, Nat.le_of_ble_eq_true rfl⟩) (za_recv (q := (RX7, TX7, 25)) hK hG 14 0 ⟨by omega, rfl⟩ rfl rfl rfl) rfl hl rfl (Nat.le_of_ble_eq_true rfl) dL_law_1434 ⟨by show _ ≤ 603072; omega, by show _ ≤ 7207018; omega⟩ (fun r_1434 u_1434 H locs hp hG hS => ?_)
  obtain ⟨T2, Y2, rfl, hy, hmo⟩ := hp
  rcases hal with ⟨hc0, h1, h2⟩ | ⟨hc1, h1⟩
  · obtain ⟨-, h3, h4⟩ : zo_t S (zs_ix (xs (nI (i + 1)).toNatClampNeg)) = 0 ∧ T2 = S ∧ r_1434 = za_enc (S.2 5 8 (zs_ix (xs (nI (i + 1)).toNatClampNeg))) := by
      rcases hmo with h | ⟨h, -⟩
      · exact h
      · exact absurd hc0 h
    have hce2 : zs_ce S ≤ zs_ce S ∧ zs_sl S ≤ zs_sl S := ⟨Nat.le_refl _, Nat.le_refl _⟩
    obtain rfl : S = S2 := h1.symm
    obtain rfl : S = T2 := h3.symm
    subst h2
    subst h4
    refine lv_istore (lv' := [(7, .int (za_enc (S.2 5 8 (zs_ix (xs (nI (i + 1)).toNatClampNeg))))), (6, .int (nI (zo_t S (zs_ix (xs (nI (i + 1)).toNatClampNeg))))), (0, .ref bq), (1, .ref (ad2 0 0)), (2, .ref (ad2 14 0)), (3, .ref (ad2 33 0)), (4, .ref (ad2 34 0)), (5, .int (nI i))]) hx hb dL_law_1437 hl (by decide) rfl (fun ls hl => ?_)
    refine lv_aload_n hx hb dL_law_1439 rfl (lv_at hl 4 rfl) ?_
    refine zc_Vi (As := []) (rest := []) hK hZ hb0 hG hS hx hb hml hown hts (c_X7_thrown l ) (cwV 0 hts gL_law_X7_thrown rfl rfl rfl (by decide +kernel) ⟨Nat.le_of_ble_eq_true rfl, Nat.le_of_ble_eq_true rfl⟩) (za_recv (q := (RX7, TX7, 25)) hK hG 14 0 ⟨by omega, rfl⟩ rfl rfl rfl) rfl hl rfl (Nat.le_of_ble_eq_true rfl) dL_law_1440 ⟨by show _ ≤ 603072; omega, by show _ ≤ 7207018; omega⟩ (fun r_1440 u_1440 H locs hp hG hS => ?_)
    obtain ⟨rfl, rfl⟩ := hp
    refine lv_iload hx hb dL_law_1443 (lv_at hl 1 rfl) ?_
    refine lv_icmp_eq (tgt := 1450) hx hb dL_law_1445 (by decide) (fun c_1445 => ?_) (fun c_1445 => ?_)
    · refine lv_iload hx hb dL_law_1450 (lv_at hl 1 rfl) ?_
      refine zb_if_ne (x := zo_t S (zs_ix (xs (nI (i + 1)).toNatClampNeg))) (tgt := 1467) hx hb (by omega) dL_law_1452 (by decide) (fun c_1452 => ?_) (fun c_1452 => ?_)
      · exact absurd hc0 c_1452
      · refine lv_aload_n hx hb dL_law_1455 rfl (lv_at hl 5 rfl) ?_
        refine zb_iconst (n := 0) hx hb dL_law_1456 (by decide) ?_
        refine zld_OL hx hb hK hG (by omega) rfl dL_law_1457 ?_
        refine lv_iload hx hb dL_law_1458 (lv_at hl 0 rfl) ?_
        refine lv_i2l hx hb dL_law_1460 rfl ?_
        refine W.lcmp hx hb dL_law_1461 ?_
        refine lv_if_eq (tgt := 1467) hx hb dL_law_1462 (by decide) (fun c_1462 => ?_) (fun c_1462 => ?_)
        · refine zb_goto (tgt := 2168) hx hb dL_law_1467 (by decide) ?_
          refine zb_iinc (n := 3) (k := 7) (lv' := [(5, .int (nI (i + 3))), (7, .int (za_enc (S.2 5 8 (zs_ix (xs (nI (i + 1)).toNatClampNeg))))), (6, .int (nI (zo_t S (zs_ix (xs (nI (i + 1)).toNatClampNeg))))), (0, .ref bq), (1, .ref (ad2 0 0)), (2, .ref (ad2 14 0)), (3, .ref (ad2 33 0)), (4, .ref (ad2 34 0))]) hx hb dL_law_2168 hl rfl (by decide) (by decide) rfl (fun ls hl => ?_)
          refine zb_goto (tgt := 28) hx hb dL_law_2171 (by decide) ?_
          have hcf := hce2
          exact kk _ S _ _ _ _ _ _ _ _ _ hG hS hD2 h62 hy.2 (by omega) (by omega) (lv_sub hl [3, 4, 5, 6, 7, 0] rfl)
        · exact absurd (zl_self _) c_1462
    · exact absurd (by rw [hy.1]) c_1445
  · have h3 : T2 = S := by
      rcases hmo with ⟨h, -⟩ | ⟨-, h⟩
      · exact absurd h hc1
      · exact h
    obtain rfl : S = S2 := h1.symm
    obtain rfl : S = T2 := h3.symm
    refine lv_istore (lv' := [(7, .int r_1434), (6, .int (nI (zo_t S (zs_ix (xs (nI (i + 1)).toNatClampNeg))))), (0, .ref bq), (1, .ref (ad2 0 0)), (2, .ref (ad2 14 0)), (3, .ref (ad2 33 0)), (4, .ref (ad2 34 0)), (5, .int (nI i))]) hx hb dL_law_1437 hl (by decide) rfl (fun ls hl => ?_)
    refine lv_aload_n hx hb dL_law_1439 rfl (lv_at hl 4 rfl) ?_
    refine zc_Vi (As := []) (rest := []) hK hZ hb0 hG hS hx hb hml hown hts (c_X7_thrown l ) (cwV 0 hts gL_law_X7_thrown rfl rfl rfl (by decide +kernel) ⟨Nat.le_of_ble_eq_true rfl, Nat.le_of_ble_eq_true rfl⟩) (za_recv (q := (RX7, TX7, 25)) hK hG 14 0 ⟨by omega, rfl⟩ rfl rfl rfl) rfl hl rfl (Nat.le_of_ble_eq_true rfl) dL_law_1440 ⟨by show _ ≤ 603072; omega, by show _ ≤ 7207018; omega⟩ (fun r_1440 u_1440 H locs hp hG hS => ?_)
    obtain ⟨rfl, rfl⟩ := hp
    refine lv_iload hx hb dL_law_1443 (lv_at hl 1 rfl) ?_
    refine lv_icmp_eq (tgt := 1450) hx hb dL_law_1445 (by decide) (fun c_1445 => ?_) (fun c_1445 => ?_)
    · refine lv_iload hx hb dL_law_1450 (lv_at hl 1 rfl) ?_
      refine zb_if_ne (x := zo_t S (zs_ix (xs (nI (i + 1)).toNatClampNeg))) (tgt := 1467) hx hb (by omega) dL_law_1452 (by decide) (fun c_1452 => ?_) (fun c_1452 => ?_)
      · refine zb_goto (tgt := 2168) hx hb dL_law_1467 (by decide) ?_
        refine zb_iinc (n := 3) (k := 7) (lv' := [(5, .int (nI (i + 3))), (7, .int r_1434), (6, .int (nI (zo_t S (zs_ix (xs (nI (i + 1)).toNatClampNeg))))), (0, .ref bq), (1, .ref (ad2 0 0)), (2, .ref (ad2 14 0)), (3, .ref (ad2 33 0)), (4, .ref (ad2 34 0))]) hx hb dL_law_2168 hl rfl (by decide) (by decide) rfl (fun ls hl => ?_)
        refine zb_goto (tgt := 28) hx hb dL_law_2171 (by decide) ?_
        exact kk _ S _ _ _ _ _ _ _ _ _ hG hS hD2 h62 hy.2 (by omega) (by omega) (lv_sub hl [3, 4, 5, 6, 7, 0] rfl)
      · exact absurd c_1452 hc1
    · exact absurd (by rw [hy.1]) c_1445

set_option maxRecDepth 100000 in
set_option maxHeartbeats 4000000 in
theorem lq_24 {p : Program} {l : Launch} {e : Env} {s : State} {m : MethodId} {below : List Frame} {meth : Method} {c : Code} {bq b L i : Nat} {xs : Nat → Int32} {E : za_E} (hl0 : l.stackTraces = false) (hL : L ≤ 1536) (C0 : lw_At p s m meth c bq L xs) (hK : za_K E s) (hZ : za_Z b s s.heap) (hAO : va_AO RX2 s) (hb0 : b ≤ s.heap.size) (hbA : ¬ za_A b bq) (hi : i + 3 ≤ L) (kk : zl_at p l e s m below meth c bq b E (i + 3))
    {ad : za_Ad} {S X Y : za_S} {ow : Int64} {dw : UInt64} {H : Heap} {locs : List Loc} {k n : Nat} {ls : Array Slot} (hG : za_G E b (ad, S, X, S, Y, ow, dw) H) (hS : va_S (za_A b) s.heap H locs) (hD : zs_D S X) (h6 : zs_6 S) (hY : zs_B Y) (hk : k ≤ 100 + 2 * i + zs_ce S) (hn : n ≤ 29000 + 14 * i + zs_sl S) (hl : lv_has ls 9 [(0, .ref bq), (1, .ref (ad 0 0)), (2, .ref (ad 14 0)), (3, .ref (ad 33 0)), (4, .ref (ad 34 0)), (5, .int (nI i))]) : W p l e room_1 s m #[Value.ref bq] below meth c H locs k n (lw_Z below #[Value.ref bq] s) (F0 m 1470 ls []) := by
  obtain ⟨hx, hb, hr, hml, hown, hts0, hX, hbl, hlocks, hgv⟩ := C0
  have hts : ∀ w ∈ wsL_law, w.before #[Value.ref bq] s = true := fun w h => hts0 w (wsL_law_in w h)
  have hce := zs_ce_le hD.1
  refine lv_aload_n hx hb dL_law_1470 rfl (lv_at hl 1 rfl) ?_
  refine lv_aload_n hx hb dL_law_1471 rfl (lv_at hl 0 rfl) ?_
  refine lv_iload hx hb dL_law_1472 (lv_at hl 5 rfl) ?_
  refine zb_iconst (n := 1) hx hb dL_law_1474 (by decide) ?_
  refine zb_iadd hx hb dL_law_1475 ?_
  refine va_sld hx hb hX hbl hbA hS (vp_in_nI (by omega) (by omega)) dL_law_1476 ?_
  refine lv_aload_n hx hb dL_law_1477 rfl (lv_at hl 0 rfl) ?_
  refine lv_iload hx hb dL_law_1478 (lv_at hl 5 rfl) ?_
  refine zb_iconst (n := 2) hx hb dL_law_1480 (by decide) ?_
  refine zb_iadd hx hb dL_law_1481 ?_
  refine va_sld hx hb hX hbl hbA hS (vp_in_nI (by omega) (by omega)) dL_law_1482 ?_
  refine lv_aload_n hx hb dL_law_1483 rfl (lv_at hl 3 rfl) ?_
  refine zc_LSi (As := [.ref (ad 0 0), .int (xs (nI (i + 1)).toNatClampNeg), .int (xs (nI (i + 2)).toNatClampNeg), .ref (ad 33 0)]) (rest := []) hK hZ hAO hb0 hG hS hx hb hml hown hts (c_L_layer l hl0 (xs (nI (i + 1)).toNatClampNeg) (xs (nI (i + 2)).toNatClampNeg) hD h6) (vx_cwSW 4 hts gL_law_L_layer rfl rfl rfl (by decide +kernel) ⟨Nat.le_of_ble_eq_true rfl, Nat.le_of_ble_eq_true rfl⟩) rfl hl rfl (Nat.le_of_ble_eq_true rfl) dL_law_1484 ⟨by show _ ≤ 603072; omega, by show _ ≤ 7207018; omega⟩ (fun r_1484 u_1484 H locs hp hG hS => ?_)
  obtain ⟨ad2, S2, X2, ow2, rfl, rfl, hsm, hD2, h62, hal⟩ := hp
  have hCb : zo_pp S (zs_ix (xs (nI (i + 1)).toNatClampNeg)) (zs_ix (xs (nI (i + 2)).toNatClampNeg)) < 2 ^ 31 := by
    unfold zo_pp
    repeat' split
    all_goals decide
  rw [← hsm 0 (by omega), ← hsm 14 (by omega), ← hsm 33 (by omega), ← hsm 34 (by omega)] at hl
  refine lv_istore (lv' := [(6, .int (nI (zo_pp S (zs_ix (xs (nI (i + 1)).toNatClampNeg)) (zs_ix (xs (nI (i + 2)).toNatClampNeg))))), (0, .ref bq), (1, .ref (ad2 0 0)), (2, .ref (ad2 14 0)), (3, .ref (ad2 33 0)), (4, .ref (ad2 34 0)), (5, .int (nI i))]) hx hb dL_law_1487 hl (by decide) rfl (fun ls hl => ?_)
  refine lv_aload_n hx hb dL_law_1489 rfl (lv_at hl 3 rfl) ?_
  refine lv_aload_n hx hb dL_law_1490 rfl (lv_at hl 1 rfl) ?_
  refine lv_iload hx hb dL_law_1491 (lv_at hl 6 rfl) ?_
  refine zb_iconst (n := 1) hx hb dL_law_1493 (by decide) ?_
  refine zb_iadd hx hb dL_law_1494 ?_
  refine va_sld hx hb hX hbl hbA hS (vp_in_nI (by omega) (by omega)) dL_law_1495 ?_
  refine lv_aload_n hx hb dL_law_1496 rfl (lv_at hl 1 rfl) ?_
  refine lv_iload hx hb dL_law_1497 (lv_at hl 6 rfl) ?_
  refine zb_iconst (n := 2) hx hb dL_law_1499 (by decide) ?_
  refine zb_iadd hx hb dL_law_1500 ?_
  refine va_sld hx hb hX hbl hbA hS (vp_in_nI (by omega) (by omega)) dL_law_1501 ?_
  refine zc_Vi (As := [.int (xs (nI (i + 1)).toNatClampNeg), .int (xs (nI (i + 2)).toNatClampNeg)]) (rest := []) hK hZ hb0 hG hS hx hb hml hown hts (c_X7_layer l (xs (nI (i + 1)).toNatClampNeg) (xs (nI (i + 2)).toNatClampNeg) (zw_D.M hD h6 hY)) (cwV 2 hts gL_law_X7_layer rfl rfl rfl (by decide +kernel) ⟨Nat.le_of_ble_eq_true rfl, Nat.le_of_ble_eq_true rfl⟩) (za_recv (q := (RX7, TX7, 25)) hK hG 14 0 ⟨by omega, rfl⟩ rfl rfl rfl) rfl hl rfl (Nat.le_of_ble_eq_true rfl) dL_law_1502 ⟨by show _ ≤ 603072; omega, by show _ ≤ 7207018; omega⟩ (fun r_1502 u_1502 H locs hp hG hS => ?_)
  obtain ⟨T2, Y2, rfl, hy, hmo⟩ := hp
  rcases hal with ⟨hc0, h1, h2⟩ | ⟨hc1, h1⟩
  · obtain ⟨-, h3, h4⟩ : zo_pp S (zs_ix (xs (nI (i + 1)).toNatClampNeg)) (zs_ix (xs (nI (i + 2)).toNatClampNeg)) = 0 ∧ T2 = S ∧ r_1502 = nI ((zs_ch S (zs_ix (xs (nI (i + 1)).toNatClampNeg))).1 (zs_ix (xs (nI (i + 2)).toNatClampNeg))) := by
      rcases hmo with h | ⟨h, -⟩
      · exact h
      · exact absurd hc0 h
    have hce2 : zs_ce S ≤ zs_ce S ∧ zs_sl S ≤ zs_sl S := ⟨Nat.le_refl _, Nat.le_refl _⟩
    obtain rfl : S = S2 := h1.symm
    obtain rfl : S = T2 := h3.symm
    subst h2
    subst h4
    refine lv_istore (lv' := [(7, .int (nI ((zs_ch S (zs_ix (xs (nI (i + 1)).toNatClampNeg))).1 (zs_ix (xs (nI (i + 2)).toNatClampNeg))))), (6, .int (nI (zo_pp S (zs_ix (xs (nI (i + 1)).toNatClampNeg)) (zs_ix (xs (nI (i + 2)).toNatClampNeg))))), (0, .ref bq), (1, .ref (ad2 0 0)), (2, .ref (ad2 14 0)), (3, .ref (ad2 33 0)), (4, .ref (ad2 34 0)), (5, .int (nI i))]) hx hb dL_law_1505 hl (by decide) rfl (fun ls hl => ?_)
    refine lv_aload_n hx hb dL_law_1507 rfl (lv_at hl 4 rfl) ?_
    refine zc_Vi (As := []) (rest := []) hK hZ hb0 hG hS hx hb hml hown hts (c_X7_thrown l ) (cwV 0 hts gL_law_X7_thrown rfl rfl rfl (by decide +kernel) ⟨Nat.le_of_ble_eq_true rfl, Nat.le_of_ble_eq_true rfl⟩) (za_recv (q := (RX7, TX7, 25)) hK hG 14 0 ⟨by omega, rfl⟩ rfl rfl rfl) rfl hl rfl (Nat.le_of_ble_eq_true rfl) dL_law_1508 ⟨by show _ ≤ 603072; omega, by show _ ≤ 7207018; omega⟩ (fun r_1508 u_1508 H locs hp hG hS => ?_)
    obtain ⟨rfl, rfl⟩ := hp
    refine lv_iload hx hb dL_law_1511 (lv_at hl 1 rfl) ?_
    refine lv_icmp_eq (tgt := 1518) hx hb dL_law_1513 (by decide) (fun c_1513 => ?_) (fun c_1513 => ?_)
    · refine lv_iload hx hb dL_law_1518 (lv_at hl 1 rfl) ?_
      refine zb_if_ne (x := zo_pp S (zs_ix (xs (nI (i + 1)).toNatClampNeg)) (zs_ix (xs (nI (i + 2)).toNatClampNeg))) (tgt := 1535) hx hb (by omega) dL_law_1520 (by decide) (fun c_1520 => ?_) (fun c_1520 => ?_)
      · exact absurd hc0 c_1520
      · refine lv_aload_n hx hb dL_law_1523 rfl (lv_at hl 5 rfl) ?_
        refine zb_iconst (n := 0) hx hb dL_law_1524 (by decide) ?_
        refine zld_OL hx hb hK hG (by omega) rfl dL_law_1525 ?_
        refine lv_iload hx hb dL_law_1526 (lv_at hl 0 rfl) ?_
        refine lv_i2l hx hb dL_law_1528 rfl ?_
        refine W.lcmp hx hb dL_law_1529 ?_
        refine lv_if_eq (tgt := 1535) hx hb dL_law_1530 (by decide) (fun c_1530 => ?_) (fun c_1530 => ?_)
        · refine zb_goto (tgt := 2168) hx hb dL_law_1535 (by decide) ?_
          refine zb_iinc (n := 3) (k := 7) (lv' := [(5, .int (nI (i + 3))), (7, .int (nI ((zs_ch S (zs_ix (xs (nI (i + 1)).toNatClampNeg))).1 (zs_ix (xs (nI (i + 2)).toNatClampNeg))))), (6, .int (nI (zo_pp S (zs_ix (xs (nI (i + 1)).toNatClampNeg)) (zs_ix (xs (nI (i + 2)).toNatClampNeg))))), (0, .ref bq), (1, .ref (ad2 0 0)), (2, .ref (ad2 14 0)), (3, .ref (ad2 33 0)), (4, .ref (ad2 34 0))]) hx hb dL_law_2168 hl rfl (by decide) (by decide) rfl (fun ls hl => ?_)
          refine zb_goto (tgt := 28) hx hb dL_law_2171 (by decide) ?_
          have hcf := hce2
          exact kk _ S _ _ _ _ _ _ _ _ _ hG hS hD2 h62 hy.2 (by omega) (by omega) (lv_sub hl [3, 4, 5, 6, 7, 0] rfl)
        · exact absurd (zl_self _) c_1530
    · exact absurd (by rw [hy.1]) c_1513
  · have h3 : T2 = S := by
      rcases hmo with ⟨h, -⟩ | ⟨-, h⟩
      · exact absurd h hc1
      · exact h
    obtain rfl : S = S2 := h1.symm
    obtain rfl : S = T2 := h3.symm
    refine lv_istore (lv' := [(7, .int r_1502), (6, .int (nI (zo_pp S (zs_ix (xs (nI (i + 1)).toNatClampNeg)) (zs_ix (xs (nI (i + 2)).toNatClampNeg))))), (0, .ref bq), (1, .ref (ad2 0 0)), (2, .ref (ad2 14 0)), (3, .ref (ad2 33 0)), (4, .ref (ad2 34 0)), (5, .int (nI i))]) hx hb dL_law_1505 hl (by decide) rfl (fun ls hl => ?_)
    refine lv_aload_n hx hb dL_law_1507 rfl (lv_at hl 4 rfl) ?_
    refine zc_Vi (As := []) (rest := []) hK hZ hb0 hG hS hx hb hml hown hts (c_X7_thrown l ) (cwV 0 hts gL_law_X7_thrown rfl rfl rfl (by decide +kernel) ⟨Nat.le_of_ble_eq_true rfl, Nat.le_of_ble_eq_true rfl⟩) (za_recv (q := (RX7, TX7, 25)) hK hG 14 0 ⟨by omega, rfl⟩ rfl rfl rfl) rfl hl rfl (Nat.le_of_ble_eq_true rfl) dL_law_1508 ⟨by show _ ≤ 603072; omega, by show _ ≤ 7207018; omega⟩ (fun r_1508 u_1508 H locs hp hG hS => ?_)
    obtain ⟨rfl, rfl⟩ := hp
    refine lv_iload hx hb dL_law_1511 (lv_at hl 1 rfl) ?_
    refine lv_icmp_eq (tgt := 1518) hx hb dL_law_1513 (by decide) (fun c_1513 => ?_) (fun c_1513 => ?_)
    · refine lv_iload hx hb dL_law_1518 (lv_at hl 1 rfl) ?_
      refine zb_if_ne (x := zo_pp S (zs_ix (xs (nI (i + 1)).toNatClampNeg)) (zs_ix (xs (nI (i + 2)).toNatClampNeg))) (tgt := 1535) hx hb (by omega) dL_law_1520 (by decide) (fun c_1520 => ?_) (fun c_1520 => ?_)
      · refine zb_goto (tgt := 2168) hx hb dL_law_1535 (by decide) ?_
        refine zb_iinc (n := 3) (k := 7) (lv' := [(5, .int (nI (i + 3))), (7, .int r_1502), (6, .int (nI (zo_pp S (zs_ix (xs (nI (i + 1)).toNatClampNeg)) (zs_ix (xs (nI (i + 2)).toNatClampNeg))))), (0, .ref bq), (1, .ref (ad2 0 0)), (2, .ref (ad2 14 0)), (3, .ref (ad2 33 0)), (4, .ref (ad2 34 0))]) hx hb dL_law_2168 hl rfl (by decide) (by decide) rfl (fun ls hl => ?_)
        refine zb_goto (tgt := 28) hx hb dL_law_2171 (by decide) ?_
        exact kk _ S _ _ _ _ _ _ _ _ _ hG hS hD2 h62 hy.2 (by omega) (by omega) (lv_sub hl [3, 4, 5, 6, 7, 0] rfl)
      · exact absurd c_1520 hc1
    · exact absurd (by rw [hy.1]) c_1513

set_option maxRecDepth 100000 in
set_option maxHeartbeats 4000000 in
theorem lq_25 {p : Program} {l : Launch} {e : Env} {s : State} {m : MethodId} {below : List Frame} {meth : Method} {c : Code} {bq b L i : Nat} {xs : Nat → Int32} {E : za_E} (hl0 : l.stackTraces = false) (hL : L ≤ 1536) (C0 : lw_At p s m meth c bq L xs) (hK : za_K E s) (hZ : za_Z b s s.heap) (hAO : va_AO RX2 s) (hb0 : b ≤ s.heap.size) (hbA : ¬ za_A b bq) (hi : i + 3 ≤ L) (kk : zl_at p l e s m below meth c bq b E (i + 3))
    {ad : za_Ad} {S X Y : za_S} {ow : Int64} {dw : UInt64} {H : Heap} {locs : List Loc} {k n : Nat} {ls : Array Slot} (hG : za_G E b (ad, S, X, S, Y, ow, dw) H) (hS : va_S (za_A b) s.heap H locs) (hD : zs_D S X) (h6 : zs_6 S) (hY : zs_B Y) (hk : k ≤ 100 + 2 * i + zs_ce S) (hn : n ≤ 29000 + 14 * i + zs_sl S) (hl : lv_has ls 9 [(0, .ref bq), (1, .ref (ad 0 0)), (2, .ref (ad 14 0)), (3, .ref (ad 33 0)), (4, .ref (ad 34 0)), (5, .int (nI i))]) : W p l e room_1 s m #[Value.ref bq] below meth c H locs k n (lw_Z below #[Value.ref bq] s) (F0 m 1538 ls []) := by
  obtain ⟨hx, hb, hr, hml, hown, hts0, hX, hbl, hlocks, hgv⟩ := C0
  have hts : ∀ w ∈ wsL_law, w.before #[Value.ref bq] s = true := fun w h => hts0 w (wsL_law_in w h)
  have hce := zs_ce_le hD.1
  refine lv_aload_n hx hb dL_law_1538 rfl (lv_at hl 1 rfl) ?_
  refine lv_aload_n hx hb dL_law_1539 rfl (lv_at hl 0 rfl) ?_
  refine lv_iload hx hb dL_law_1540 (lv_at hl 5 rfl) ?_
  refine zb_iconst (n := 1) hx hb dL_law_1542 (by decide) ?_
  refine zb_iadd hx hb dL_law_1543 ?_
  refine va_sld hx hb hX hbl hbA hS (vp_in_nI (by omega) (by omega)) dL_law_1544 ?_
  refine lv_aload_n hx hb dL_law_1545 rfl (lv_at hl 0 rfl) ?_
  refine lv_iload hx hb dL_law_1546 (lv_at hl 5 rfl) ?_
  refine zb_iconst (n := 2) hx hb dL_law_1548 (by decide) ?_
  refine zb_iadd hx hb dL_law_1549 ?_
  refine va_sld hx hb hX hbl hbA hS (vp_in_nI (by omega) (by omega)) dL_law_1550 ?_
  refine lv_aload_n hx hb dL_law_1551 rfl (lv_at hl 3 rfl) ?_
  refine zc_LSi (As := [.ref (ad 0 0), .int (xs (nI (i + 1)).toNatClampNeg), .int (xs (nI (i + 2)).toNatClampNeg), .ref (ad 33 0)]) (rest := []) hK hZ hAO hb0 hG hS hx hb hml hown hts (c_L_layerAnew l hl0 (xs (nI (i + 1)).toNatClampNeg) (xs (nI (i + 2)).toNatClampNeg) hD h6) (vx_cwSW 4 hts gL_law_L_layerAnew rfl rfl rfl (by decide +kernel) ⟨Nat.le_of_ble_eq_true rfl, Nat.le_of_ble_eq_true rfl⟩) rfl hl rfl (Nat.le_of_ble_eq_true rfl) dL_law_1552 ⟨by show _ ≤ 603072; omega, by show _ ≤ 7207018; omega⟩ (fun r_1552 u_1552 H locs hp hG hS => ?_)
  obtain ⟨ad2, S2, X2, ow2, rfl, rfl, hsm, hD2, h62, hal⟩ := hp
  have hCb : zo_pp S (zs_ix (xs (nI (i + 1)).toNatClampNeg)) (zs_ix (xs (nI (i + 2)).toNatClampNeg)) < 2 ^ 31 := by
    unfold zo_pp
    repeat' split
    all_goals decide
  rw [← hsm 0 (by omega), ← hsm 14 (by omega), ← hsm 33 (by omega), ← hsm 34 (by omega)] at hl
  refine lv_istore (lv' := [(6, .int (nI (zo_pp S (zs_ix (xs (nI (i + 1)).toNatClampNeg)) (zs_ix (xs (nI (i + 2)).toNatClampNeg))))), (0, .ref bq), (1, .ref (ad2 0 0)), (2, .ref (ad2 14 0)), (3, .ref (ad2 33 0)), (4, .ref (ad2 34 0)), (5, .int (nI i))]) hx hb dL_law_1555 hl (by decide) rfl (fun ls hl => ?_)
  refine lv_aload_n hx hb dL_law_1557 rfl (lv_at hl 3 rfl) ?_
  refine lv_aload_n hx hb dL_law_1558 rfl (lv_at hl 1 rfl) ?_
  refine lv_iload hx hb dL_law_1559 (lv_at hl 6 rfl) ?_
  refine zb_iconst (n := 1) hx hb dL_law_1561 (by decide) ?_
  refine zb_iadd hx hb dL_law_1562 ?_
  refine va_sld hx hb hX hbl hbA hS (vp_in_nI (by omega) (by omega)) dL_law_1563 ?_
  refine lv_aload_n hx hb dL_law_1564 rfl (lv_at hl 1 rfl) ?_
  refine lv_iload hx hb dL_law_1565 (lv_at hl 6 rfl) ?_
  refine zb_iconst (n := 2) hx hb dL_law_1567 (by decide) ?_
  refine zb_iadd hx hb dL_law_1568 ?_
  refine va_sld hx hb hX hbl hbA hS (vp_in_nI (by omega) (by omega)) dL_law_1569 ?_
  refine zc_Vi (As := [.int (xs (nI (i + 1)).toNatClampNeg), .int (xs (nI (i + 2)).toNatClampNeg)]) (rest := []) hK hZ hb0 hG hS hx hb hml hown hts (c_X7_layerAnew l (xs (nI (i + 1)).toNatClampNeg) (xs (nI (i + 2)).toNatClampNeg) (zw_D.M hD h6 hY)) (cwV 2 hts gL_law_X7_layerAnew rfl rfl rfl (by decide +kernel) ⟨Nat.le_of_ble_eq_true rfl, Nat.le_of_ble_eq_true rfl⟩) (za_recv (q := (RX7, TX7, 25)) hK hG 14 0 ⟨by omega, rfl⟩ rfl rfl rfl) rfl hl rfl (Nat.le_of_ble_eq_true rfl) dL_law_1570 ⟨by show _ ≤ 603072; omega, by show _ ≤ 7207018; omega⟩ (fun r_1570 u_1570 H locs hp hG hS => ?_)
  obtain ⟨T2, Y2, rfl, hy, hmo⟩ := hp
  rcases hal with ⟨hc0, h1, h2⟩ | ⟨hc1, h1⟩
  · obtain ⟨-, h3, h4⟩ : zo_pp S (zs_ix (xs (nI (i + 1)).toNatClampNeg)) (zs_ix (xs (nI (i + 2)).toNatClampNeg)) = 0 ∧ T2 = S ∧ r_1570 = nI ((zs_ch S (zs_ix (xs (nI (i + 1)).toNatClampNeg))).1 (zs_ix (xs (nI (i + 2)).toNatClampNeg))) := by
      rcases hmo with h | ⟨h, -⟩
      · exact h
      · exact absurd hc0 h
    have hce2 : zs_ce S ≤ zs_ce S ∧ zs_sl S ≤ zs_sl S := ⟨Nat.le_refl _, Nat.le_refl _⟩
    obtain rfl : S = S2 := h1.symm
    obtain rfl : S = T2 := h3.symm
    subst h2
    subst h4
    refine lv_istore (lv' := [(7, .int (nI ((zs_ch S (zs_ix (xs (nI (i + 1)).toNatClampNeg))).1 (zs_ix (xs (nI (i + 2)).toNatClampNeg))))), (6, .int (nI (zo_pp S (zs_ix (xs (nI (i + 1)).toNatClampNeg)) (zs_ix (xs (nI (i + 2)).toNatClampNeg))))), (0, .ref bq), (1, .ref (ad2 0 0)), (2, .ref (ad2 14 0)), (3, .ref (ad2 33 0)), (4, .ref (ad2 34 0)), (5, .int (nI i))]) hx hb dL_law_1573 hl (by decide) rfl (fun ls hl => ?_)
    refine lv_aload_n hx hb dL_law_1575 rfl (lv_at hl 4 rfl) ?_
    refine zc_Vi (As := []) (rest := []) hK hZ hb0 hG hS hx hb hml hown hts (c_X7_thrown l ) (cwV 0 hts gL_law_X7_thrown rfl rfl rfl (by decide +kernel) ⟨Nat.le_of_ble_eq_true rfl, Nat.le_of_ble_eq_true rfl⟩) (za_recv (q := (RX7, TX7, 25)) hK hG 14 0 ⟨by omega, rfl⟩ rfl rfl rfl) rfl hl rfl (Nat.le_of_ble_eq_true rfl) dL_law_1576 ⟨by show _ ≤ 603072; omega, by show _ ≤ 7207018; omega⟩ (fun r_1576 u_1576 H locs hp hG hS => ?_)
    obtain ⟨rfl, rfl⟩ := hp
    refine lv_iload hx hb dL_law_1579 (lv_at hl 1 rfl) ?_
    refine lv_icmp_eq (tgt := 1586) hx hb dL_law_1581 (by decide) (fun c_1581 => ?_) (fun c_1581 => ?_)
    · refine lv_iload hx hb dL_law_1586 (lv_at hl 1 rfl) ?_
      refine zb_if_ne (x := zo_pp S (zs_ix (xs (nI (i + 1)).toNatClampNeg)) (zs_ix (xs (nI (i + 2)).toNatClampNeg))) (tgt := 1603) hx hb (by omega) dL_law_1588 (by decide) (fun c_1588 => ?_) (fun c_1588 => ?_)
      · exact absurd hc0 c_1588
      · refine lv_aload_n hx hb dL_law_1591 rfl (lv_at hl 5 rfl) ?_
        refine zb_iconst (n := 0) hx hb dL_law_1592 (by decide) ?_
        refine zld_OL hx hb hK hG (by omega) rfl dL_law_1593 ?_
        refine lv_iload hx hb dL_law_1594 (lv_at hl 0 rfl) ?_
        refine lv_i2l hx hb dL_law_1596 rfl ?_
        refine W.lcmp hx hb dL_law_1597 ?_
        refine lv_if_eq (tgt := 1603) hx hb dL_law_1598 (by decide) (fun c_1598 => ?_) (fun c_1598 => ?_)
        · refine zb_goto (tgt := 2168) hx hb dL_law_1603 (by decide) ?_
          refine zb_iinc (n := 3) (k := 7) (lv' := [(5, .int (nI (i + 3))), (7, .int (nI ((zs_ch S (zs_ix (xs (nI (i + 1)).toNatClampNeg))).1 (zs_ix (xs (nI (i + 2)).toNatClampNeg))))), (6, .int (nI (zo_pp S (zs_ix (xs (nI (i + 1)).toNatClampNeg)) (zs_ix (xs (nI (i + 2)).toNatClampNeg))))), (0, .ref bq), (1, .ref (ad2 0 0)), (2, .ref (ad2 14 0)), (3, .ref (ad2 33 0)), (4, .ref (ad2 34 0))]) hx hb dL_law_2168 hl rfl (by decide) (by decide) rfl (fun ls hl => ?_)
          refine zb_goto (tgt := 28) hx hb dL_law_2171 (by decide) ?_
          have hcf := hce2
          exact kk _ S _ _ _ _ _ _ _ _ _ hG hS hD2 h62 hy.2 (by omega) (by omega) (lv_sub hl [3, 4, 5, 6, 7, 0] rfl)
        · exact absurd (zl_self _) c_1598
    · exact absurd (by rw [hy.1]) c_1581
  · have h3 : T2 = S := by
      rcases hmo with ⟨h, -⟩ | ⟨-, h⟩
      · exact absurd h hc1
      · exact h
    obtain rfl : S = S2 := h1.symm
    obtain rfl : S = T2 := h3.symm
    refine lv_istore (lv' := [(7, .int r_1570), (6, .int (nI (zo_pp S (zs_ix (xs (nI (i + 1)).toNatClampNeg)) (zs_ix (xs (nI (i + 2)).toNatClampNeg))))), (0, .ref bq), (1, .ref (ad2 0 0)), (2, .ref (ad2 14 0)), (3, .ref (ad2 33 0)), (4, .ref (ad2 34 0)), (5, .int (nI i))]) hx hb dL_law_1573 hl (by decide) rfl (fun ls hl => ?_)
    refine lv_aload_n hx hb dL_law_1575 rfl (lv_at hl 4 rfl) ?_
    refine zc_Vi (As := []) (rest := []) hK hZ hb0 hG hS hx hb hml hown hts (c_X7_thrown l ) (cwV 0 hts gL_law_X7_thrown rfl rfl rfl (by decide +kernel) ⟨Nat.le_of_ble_eq_true rfl, Nat.le_of_ble_eq_true rfl⟩) (za_recv (q := (RX7, TX7, 25)) hK hG 14 0 ⟨by omega, rfl⟩ rfl rfl rfl) rfl hl rfl (Nat.le_of_ble_eq_true rfl) dL_law_1576 ⟨by show _ ≤ 603072; omega, by show _ ≤ 7207018; omega⟩ (fun r_1576 u_1576 H locs hp hG hS => ?_)
    obtain ⟨rfl, rfl⟩ := hp
    refine lv_iload hx hb dL_law_1579 (lv_at hl 1 rfl) ?_
    refine lv_icmp_eq (tgt := 1586) hx hb dL_law_1581 (by decide) (fun c_1581 => ?_) (fun c_1581 => ?_)
    · refine lv_iload hx hb dL_law_1586 (lv_at hl 1 rfl) ?_
      refine zb_if_ne (x := zo_pp S (zs_ix (xs (nI (i + 1)).toNatClampNeg)) (zs_ix (xs (nI (i + 2)).toNatClampNeg))) (tgt := 1603) hx hb (by omega) dL_law_1588 (by decide) (fun c_1588 => ?_) (fun c_1588 => ?_)
      · refine zb_goto (tgt := 2168) hx hb dL_law_1603 (by decide) ?_
        refine zb_iinc (n := 3) (k := 7) (lv' := [(5, .int (nI (i + 3))), (7, .int r_1570), (6, .int (nI (zo_pp S (zs_ix (xs (nI (i + 1)).toNatClampNeg)) (zs_ix (xs (nI (i + 2)).toNatClampNeg))))), (0, .ref bq), (1, .ref (ad2 0 0)), (2, .ref (ad2 14 0)), (3, .ref (ad2 33 0)), (4, .ref (ad2 34 0))]) hx hb dL_law_2168 hl rfl (by decide) (by decide) rfl (fun ls hl => ?_)
        refine zb_goto (tgt := 28) hx hb dL_law_2171 (by decide) ?_
        exact kk _ S _ _ _ _ _ _ _ _ _ hG hS hD2 h62 hy.2 (by omega) (by omega) (lv_sub hl [3, 4, 5, 6, 7, 0] rfl)
      · exact absurd c_1588 hc1
    · exact absurd (by rw [hy.1]) c_1581

set_option maxRecDepth 100000 in
set_option maxHeartbeats 4000000 in
theorem lq_26 {p : Program} {l : Launch} {e : Env} {s : State} {m : MethodId} {below : List Frame} {meth : Method} {c : Code} {bq b L i : Nat} {xs : Nat → Int32} {E : za_E} (hl0 : l.stackTraces = false) (hL : L ≤ 1536) (C0 : lw_At p s m meth c bq L xs) (hK : za_K E s) (hZ : za_Z b s s.heap) (hAO : va_AO RX2 s) (hb0 : b ≤ s.heap.size) (hbA : ¬ za_A b bq) (hi : i + 3 ≤ L) (kk : zl_at p l e s m below meth c bq b E (i + 3))
    {ad : za_Ad} {S X Y : za_S} {ow : Int64} {dw : UInt64} {H : Heap} {locs : List Loc} {k n : Nat} {ls : Array Slot} (hG : za_G E b (ad, S, X, S, Y, ow, dw) H) (hS : va_S (za_A b) s.heap H locs) (hD : zs_D S X) (h6 : zs_6 S) (hY : zs_B Y) (hk : k ≤ 100 + 2 * i + zs_ce S) (hn : n ≤ 29000 + 14 * i + zs_sl S) (hl : lv_has ls 9 [(0, .ref bq), (1, .ref (ad 0 0)), (2, .ref (ad 14 0)), (3, .ref (ad 33 0)), (4, .ref (ad 34 0)), (5, .int (nI i))]) : W p l e room_1 s m #[Value.ref bq] below meth c H locs k n (lw_Z below #[Value.ref bq] s) (F0 m 1606 ls []) := by
  obtain ⟨hx, hb, hr, hml, hown, hts0, hX, hbl, hlocks, hgv⟩ := C0
  have hts : ∀ w ∈ wsL_law, w.before #[Value.ref bq] s = true := fun w h => hts0 w (wsL_law_in w h)
  have hce := zs_ce_le hD.1
  refine lv_aload_n hx hb dL_law_1606 rfl (lv_at hl 1 rfl) ?_
  refine lv_aload_n hx hb dL_law_1607 rfl (lv_at hl 0 rfl) ?_
  refine lv_iload hx hb dL_law_1608 (lv_at hl 5 rfl) ?_
  refine zb_iconst (n := 1) hx hb dL_law_1610 (by decide) ?_
  refine zb_iadd hx hb dL_law_1611 ?_
  refine va_sld hx hb hX hbl hbA hS (vp_in_nI (by omega) (by omega)) dL_law_1612 ?_
  refine lv_aload_n hx hb dL_law_1613 rfl (lv_at hl 3 rfl) ?_
  refine zc_LSi (As := [.ref (ad 0 0), .int (xs (nI (i + 1)).toNatClampNeg), .ref (ad 33 0)]) (rest := []) hK hZ hAO hb0 hG hS hx hb hml hown hts (c_L_used l hl0 (xs (nI (i + 1)).toNatClampNeg) hD h6) (vx_cwSW 3 hts gL_law_L_used rfl rfl rfl (by decide +kernel) ⟨Nat.le_of_ble_eq_true rfl, Nat.le_of_ble_eq_true rfl⟩) rfl hl rfl (Nat.le_of_ble_eq_true rfl) dL_law_1614 ⟨by show _ ≤ 603072; omega, by show _ ≤ 7207018; omega⟩ (fun r_1614 u_1614 H locs hp hG hS => ?_)
  obtain ⟨ad2, S2, X2, ow2, rfl, rfl, hsm, hD2, h62, hal⟩ := hp
  have hCb : zo_p S (zs_ix (xs (nI (i + 1)).toNatClampNeg)) < 2 ^ 31 := by
    unfold zo_p
    repeat' split
    all_goals decide
  rw [← hsm 0 (by omega), ← hsm 14 (by omega), ← hsm 33 (by omega), ← hsm 34 (by omega)] at hl
  refine lv_istore (lv' := [(6, .int (nI (zo_p S (zs_ix (xs (nI (i + 1)).toNatClampNeg))))), (0, .ref bq), (1, .ref (ad2 0 0)), (2, .ref (ad2 14 0)), (3, .ref (ad2 33 0)), (4, .ref (ad2 34 0)), (5, .int (nI i))]) hx hb dL_law_1617 hl (by decide) rfl (fun ls hl => ?_)
  refine lv_aload_n hx hb dL_law_1619 rfl (lv_at hl 3 rfl) ?_
  refine lv_aload_n hx hb dL_law_1620 rfl (lv_at hl 1 rfl) ?_
  refine lv_iload hx hb dL_law_1621 (lv_at hl 6 rfl) ?_
  refine zb_iconst (n := 1) hx hb dL_law_1623 (by decide) ?_
  refine zb_iadd hx hb dL_law_1624 ?_
  refine va_sld hx hb hX hbl hbA hS (vp_in_nI (by omega) (by omega)) dL_law_1625 ?_
  refine zc_Vi (As := [.int (xs (nI (i + 1)).toNatClampNeg)]) (rest := []) hK hZ hb0 hG hS hx hb hml hown hts (c_X7_used l (xs (nI (i + 1)).toNatClampNeg) (zw_D.M hD h6 hY)) (cwV 1 hts gL_law_X7_used rfl rfl rfl (by decide +kernel) ⟨Nat.le_of_ble_eq_true rfl, Nat.le_of_ble_eq_true rfl⟩) (za_recv (q := (RX7, TX7, 25)) hK hG 14 0 ⟨by omega, rfl⟩ rfl rfl rfl) rfl hl rfl (Nat.le_of_ble_eq_true rfl) dL_law_1626 ⟨by show _ ≤ 603072; omega, by show _ ≤ 7207018; omega⟩ (fun r_1626 u_1626 H locs hp hG hS => ?_)
  obtain ⟨T2, Y2, rfl, hy, hmo⟩ := hp
  rcases hal with ⟨hc0, h1, h2⟩ | ⟨hc1, h1⟩
  · obtain ⟨-, h3, h4⟩ : zo_p S (zs_ix (xs (nI (i + 1)).toNatClampNeg)) = 0 ∧ T2 = S ∧ r_1626 = nI (zs_us S (zs_ix (xs (nI (i + 1)).toNatClampNeg))) := by
      rcases hmo with h | ⟨h, -⟩
      · exact h
      · exact absurd hc0 h
    have hce2 : zs_ce S ≤ zs_ce S ∧ zs_sl S ≤ zs_sl S := ⟨Nat.le_refl _, Nat.le_refl _⟩
    obtain rfl : S = S2 := h1.symm
    obtain rfl : S = T2 := h3.symm
    subst h2
    subst h4
    refine lv_istore (lv' := [(7, .int (nI (zs_us S (zs_ix (xs (nI (i + 1)).toNatClampNeg))))), (6, .int (nI (zo_p S (zs_ix (xs (nI (i + 1)).toNatClampNeg))))), (0, .ref bq), (1, .ref (ad2 0 0)), (2, .ref (ad2 14 0)), (3, .ref (ad2 33 0)), (4, .ref (ad2 34 0)), (5, .int (nI i))]) hx hb dL_law_1629 hl (by decide) rfl (fun ls hl => ?_)
    refine lv_aload_n hx hb dL_law_1631 rfl (lv_at hl 4 rfl) ?_
    refine zc_Vi (As := []) (rest := []) hK hZ hb0 hG hS hx hb hml hown hts (c_X7_thrown l ) (cwV 0 hts gL_law_X7_thrown rfl rfl rfl (by decide +kernel) ⟨Nat.le_of_ble_eq_true rfl, Nat.le_of_ble_eq_true rfl⟩) (za_recv (q := (RX7, TX7, 25)) hK hG 14 0 ⟨by omega, rfl⟩ rfl rfl rfl) rfl hl rfl (Nat.le_of_ble_eq_true rfl) dL_law_1632 ⟨by show _ ≤ 603072; omega, by show _ ≤ 7207018; omega⟩ (fun r_1632 u_1632 H locs hp hG hS => ?_)
    obtain ⟨rfl, rfl⟩ := hp
    refine lv_iload hx hb dL_law_1635 (lv_at hl 1 rfl) ?_
    refine lv_icmp_eq (tgt := 1642) hx hb dL_law_1637 (by decide) (fun c_1637 => ?_) (fun c_1637 => ?_)
    · refine lv_iload hx hb dL_law_1642 (lv_at hl 1 rfl) ?_
      refine zb_if_ne (x := zo_p S (zs_ix (xs (nI (i + 1)).toNatClampNeg))) (tgt := 1659) hx hb (by omega) dL_law_1644 (by decide) (fun c_1644 => ?_) (fun c_1644 => ?_)
      · exact absurd hc0 c_1644
      · refine lv_aload_n hx hb dL_law_1647 rfl (lv_at hl 5 rfl) ?_
        refine zb_iconst (n := 0) hx hb dL_law_1648 (by decide) ?_
        refine zld_OL hx hb hK hG (by omega) rfl dL_law_1649 ?_
        refine lv_iload hx hb dL_law_1650 (lv_at hl 0 rfl) ?_
        refine lv_i2l hx hb dL_law_1652 rfl ?_
        refine W.lcmp hx hb dL_law_1653 ?_
        refine lv_if_eq (tgt := 1659) hx hb dL_law_1654 (by decide) (fun c_1654 => ?_) (fun c_1654 => ?_)
        · refine zb_goto (tgt := 2168) hx hb dL_law_1659 (by decide) ?_
          refine zb_iinc (n := 3) (k := 7) (lv' := [(5, .int (nI (i + 3))), (7, .int (nI (zs_us S (zs_ix (xs (nI (i + 1)).toNatClampNeg))))), (6, .int (nI (zo_p S (zs_ix (xs (nI (i + 1)).toNatClampNeg))))), (0, .ref bq), (1, .ref (ad2 0 0)), (2, .ref (ad2 14 0)), (3, .ref (ad2 33 0)), (4, .ref (ad2 34 0))]) hx hb dL_law_2168 hl rfl (by decide) (by decide) rfl (fun ls hl => ?_)
          refine zb_goto (tgt := 28) hx hb dL_law_2171 (by decide) ?_
          have hcf := hce2
          exact kk _ S _ _ _ _ _ _ _ _ _ hG hS hD2 h62 hy.2 (by omega) (by omega) (lv_sub hl [3, 4, 5, 6, 7, 0] rfl)
        · exact absurd (zl_self _) c_1654
    · exact absurd (by rw [hy.1]) c_1637
  · have h3 : T2 = S := by
      rcases hmo with ⟨h, -⟩ | ⟨-, h⟩
      · exact absurd h hc1
      · exact h
    obtain rfl : S = S2 := h1.symm
    obtain rfl : S = T2 := h3.symm
    refine lv_istore (lv' := [(7, .int r_1626), (6, .int (nI (zo_p S (zs_ix (xs (nI (i + 1)).toNatClampNeg))))), (0, .ref bq), (1, .ref (ad2 0 0)), (2, .ref (ad2 14 0)), (3, .ref (ad2 33 0)), (4, .ref (ad2 34 0)), (5, .int (nI i))]) hx hb dL_law_1629 hl (by decide) rfl (fun ls hl => ?_)
    refine lv_aload_n hx hb dL_law_1631 rfl (lv_at hl 4 rfl) ?_
    refine zc_Vi (As := []) (rest := []) hK hZ hb0 hG hS hx hb hml hown hts (c_X7_thrown l ) (cwV 0 hts gL_law_X7_thrown rfl rfl rfl (by decide +kernel) ⟨Nat.le_of_ble_eq_true rfl, Nat.le_of_ble_eq_true rfl⟩) (za_recv (q := (RX7, TX7, 25)) hK hG 14 0 ⟨by omega, rfl⟩ rfl rfl rfl) rfl hl rfl (Nat.le_of_ble_eq_true rfl) dL_law_1632 ⟨by show _ ≤ 603072; omega, by show _ ≤ 7207018; omega⟩ (fun r_1632 u_1632 H locs hp hG hS => ?_)
    obtain ⟨rfl, rfl⟩ := hp
    refine lv_iload hx hb dL_law_1635 (lv_at hl 1 rfl) ?_
    refine lv_icmp_eq (tgt := 1642) hx hb dL_law_1637 (by decide) (fun c_1637 => ?_) (fun c_1637 => ?_)
    · refine lv_iload hx hb dL_law_1642 (lv_at hl 1 rfl) ?_
      refine zb_if_ne (x := zo_p S (zs_ix (xs (nI (i + 1)).toNatClampNeg))) (tgt := 1659) hx hb (by omega) dL_law_1644 (by decide) (fun c_1644 => ?_) (fun c_1644 => ?_)
      · refine zb_goto (tgt := 2168) hx hb dL_law_1659 (by decide) ?_
        refine zb_iinc (n := 3) (k := 7) (lv' := [(5, .int (nI (i + 3))), (7, .int r_1626), (6, .int (nI (zo_p S (zs_ix (xs (nI (i + 1)).toNatClampNeg))))), (0, .ref bq), (1, .ref (ad2 0 0)), (2, .ref (ad2 14 0)), (3, .ref (ad2 33 0)), (4, .ref (ad2 34 0))]) hx hb dL_law_2168 hl rfl (by decide) (by decide) rfl (fun ls hl => ?_)
        refine zb_goto (tgt := 28) hx hb dL_law_2171 (by decide) ?_
        exact kk _ S _ _ _ _ _ _ _ _ _ hG hS hD2 h62 hy.2 (by omega) (by omega) (lv_sub hl [3, 4, 5, 6, 7, 0] rfl)
      · exact absurd c_1644 hc1
    · exact absurd (by rw [hy.1]) c_1637

set_option maxRecDepth 100000 in
set_option maxHeartbeats 4000000 in
theorem lq_27 {p : Program} {l : Launch} {e : Env} {s : State} {m : MethodId} {below : List Frame} {meth : Method} {c : Code} {bq b L i : Nat} {xs : Nat → Int32} {E : za_E} (hl0 : l.stackTraces = false) (hL : L ≤ 1536) (C0 : lw_At p s m meth c bq L xs) (hK : za_K E s) (hZ : za_Z b s s.heap) (hAO : va_AO RX2 s) (hb0 : b ≤ s.heap.size) (hbA : ¬ za_A b bq) (hi : i + 3 ≤ L) (kk : zl_at p l e s m below meth c bq b E (i + 3))
    {ad : za_Ad} {S X Y : za_S} {ow : Int64} {dw : UInt64} {H : Heap} {locs : List Loc} {k n : Nat} {ls : Array Slot} (hG : za_G E b (ad, S, X, S, Y, ow, dw) H) (hS : va_S (za_A b) s.heap H locs) (hD : zs_D S X) (h6 : zs_6 S) (hY : zs_B Y) (hk : k ≤ 100 + 2 * i + zs_ce S) (hn : n ≤ 29000 + 14 * i + zs_sl S) (hl : lv_has ls 9 [(0, .ref bq), (1, .ref (ad 0 0)), (2, .ref (ad 14 0)), (3, .ref (ad 33 0)), (4, .ref (ad 34 0)), (5, .int (nI i))]) : W p l e room_1 s m #[Value.ref bq] below meth c H locs k n (lw_Z below #[Value.ref bq] s) (F0 m 1662 ls []) := by
  obtain ⟨hx, hb, hr, hml, hown, hts0, hX, hbl, hlocks, hgv⟩ := C0
  have hts : ∀ w ∈ wsL_law, w.before #[Value.ref bq] s = true := fun w h => hts0 w (wsL_law_in w h)
  have hce := zs_ce_le hD.1
  refine lv_aload_n hx hb dL_law_1662 rfl (lv_at hl 1 rfl) ?_
  refine lv_aload_n hx hb dL_law_1663 rfl (lv_at hl 0 rfl) ?_
  refine lv_iload hx hb dL_law_1664 (lv_at hl 5 rfl) ?_
  refine zb_iconst (n := 1) hx hb dL_law_1666 (by decide) ?_
  refine zb_iadd hx hb dL_law_1667 ?_
  refine va_sld hx hb hX hbl hbA hS (vp_in_nI (by omega) (by omega)) dL_law_1668 ?_
  refine lv_aload_n hx hb dL_law_1669 rfl (lv_at hl 3 rfl) ?_
  refine zc_LSi (As := [.ref (ad 0 0), .int (xs (nI (i + 1)).toNatClampNeg), .ref (ad 33 0)]) (rest := []) hK hZ hAO hb0 hG hS hx hb hml hown hts (c_L_viewers l hl0 (xs (nI (i + 1)).toNatClampNeg) hD h6) (vx_cwSW 3 hts gL_law_L_viewers rfl rfl rfl (by decide +kernel) ⟨Nat.le_of_ble_eq_true rfl, Nat.le_of_ble_eq_true rfl⟩) rfl hl rfl (Nat.le_of_ble_eq_true rfl) dL_law_1670 ⟨by show _ ≤ 603072; omega, by show _ ≤ 7207018; omega⟩ (fun r_1670 u_1670 H locs hp hG hS => ?_)
  obtain ⟨ad2, S2, X2, ow2, rfl, rfl, hsm, hD2, h62, hal⟩ := hp
  have hCb : zo_p S (zs_ix (xs (nI (i + 1)).toNatClampNeg)) < 2 ^ 31 := by
    unfold zo_p
    repeat' split
    all_goals decide
  rw [← hsm 0 (by omega), ← hsm 14 (by omega), ← hsm 33 (by omega), ← hsm 34 (by omega)] at hl
  refine lv_istore (lv' := [(6, .int (nI (zo_p S (zs_ix (xs (nI (i + 1)).toNatClampNeg))))), (0, .ref bq), (1, .ref (ad2 0 0)), (2, .ref (ad2 14 0)), (3, .ref (ad2 33 0)), (4, .ref (ad2 34 0)), (5, .int (nI i))]) hx hb dL_law_1673 hl (by decide) rfl (fun ls hl => ?_)
  refine lv_aload_n hx hb dL_law_1675 rfl (lv_at hl 3 rfl) ?_
  refine lv_aload_n hx hb dL_law_1676 rfl (lv_at hl 1 rfl) ?_
  refine lv_iload hx hb dL_law_1677 (lv_at hl 6 rfl) ?_
  refine zb_iconst (n := 1) hx hb dL_law_1679 (by decide) ?_
  refine zb_iadd hx hb dL_law_1680 ?_
  refine va_sld hx hb hX hbl hbA hS (vp_in_nI (by omega) (by omega)) dL_law_1681 ?_
  refine zc_Vi (As := [.int (xs (nI (i + 1)).toNatClampNeg)]) (rest := []) hK hZ hb0 hG hS hx hb hml hown hts (c_X7_viewers l (xs (nI (i + 1)).toNatClampNeg) (zw_D.M hD h6 hY)) (cwV 1 hts gL_law_X7_viewers rfl rfl rfl (by decide +kernel) ⟨Nat.le_of_ble_eq_true rfl, Nat.le_of_ble_eq_true rfl⟩) (za_recv (q := (RX7, TX7, 25)) hK hG 14 0 ⟨by omega, rfl⟩ rfl rfl rfl) rfl hl rfl (Nat.le_of_ble_eq_true rfl) dL_law_1682 ⟨by show _ ≤ 603072; omega, by show _ ≤ 7207018; omega⟩ (fun r_1682 u_1682 H locs hp hG hS => ?_)
  obtain ⟨T2, Y2, rfl, hy, hmo⟩ := hp
  rcases hal with ⟨hc0, h1, h2⟩ | ⟨hc1, h1⟩
  · obtain ⟨-, h3, h4⟩ : zo_p S (zs_ix (xs (nI (i + 1)).toNatClampNeg)) = 0 ∧ T2 = S ∧ r_1682 = nI (zs_vc S (zs_ix (xs (nI (i + 1)).toNatClampNeg)) 10) := by
      rcases hmo with h | ⟨h, -⟩
      · exact h
      · exact absurd hc0 h
    have hce2 : zs_ce S ≤ zs_ce S ∧ zs_sl S ≤ zs_sl S := ⟨Nat.le_refl _, Nat.le_refl _⟩
    obtain rfl : S = S2 := h1.symm
    obtain rfl : S = T2 := h3.symm
    subst h2
    subst h4
    refine lv_istore (lv' := [(7, .int (nI (zs_vc S (zs_ix (xs (nI (i + 1)).toNatClampNeg)) 10))), (6, .int (nI (zo_p S (zs_ix (xs (nI (i + 1)).toNatClampNeg))))), (0, .ref bq), (1, .ref (ad2 0 0)), (2, .ref (ad2 14 0)), (3, .ref (ad2 33 0)), (4, .ref (ad2 34 0)), (5, .int (nI i))]) hx hb dL_law_1685 hl (by decide) rfl (fun ls hl => ?_)
    refine lv_aload_n hx hb dL_law_1687 rfl (lv_at hl 4 rfl) ?_
    refine zc_Vi (As := []) (rest := []) hK hZ hb0 hG hS hx hb hml hown hts (c_X7_thrown l ) (cwV 0 hts gL_law_X7_thrown rfl rfl rfl (by decide +kernel) ⟨Nat.le_of_ble_eq_true rfl, Nat.le_of_ble_eq_true rfl⟩) (za_recv (q := (RX7, TX7, 25)) hK hG 14 0 ⟨by omega, rfl⟩ rfl rfl rfl) rfl hl rfl (Nat.le_of_ble_eq_true rfl) dL_law_1688 ⟨by show _ ≤ 603072; omega, by show _ ≤ 7207018; omega⟩ (fun r_1688 u_1688 H locs hp hG hS => ?_)
    obtain ⟨rfl, rfl⟩ := hp
    refine lv_iload hx hb dL_law_1691 (lv_at hl 1 rfl) ?_
    refine lv_icmp_eq (tgt := 1698) hx hb dL_law_1693 (by decide) (fun c_1693 => ?_) (fun c_1693 => ?_)
    · refine lv_iload hx hb dL_law_1698 (lv_at hl 1 rfl) ?_
      refine zb_if_ne (x := zo_p S (zs_ix (xs (nI (i + 1)).toNatClampNeg))) (tgt := 1715) hx hb (by omega) dL_law_1700 (by decide) (fun c_1700 => ?_) (fun c_1700 => ?_)
      · exact absurd hc0 c_1700
      · refine lv_aload_n hx hb dL_law_1703 rfl (lv_at hl 5 rfl) ?_
        refine zb_iconst (n := 0) hx hb dL_law_1704 (by decide) ?_
        refine zld_OL hx hb hK hG (by omega) rfl dL_law_1705 ?_
        refine lv_iload hx hb dL_law_1706 (lv_at hl 0 rfl) ?_
        refine lv_i2l hx hb dL_law_1708 rfl ?_
        refine W.lcmp hx hb dL_law_1709 ?_
        refine lv_if_eq (tgt := 1715) hx hb dL_law_1710 (by decide) (fun c_1710 => ?_) (fun c_1710 => ?_)
        · refine zb_goto (tgt := 2168) hx hb dL_law_1715 (by decide) ?_
          refine zb_iinc (n := 3) (k := 7) (lv' := [(5, .int (nI (i + 3))), (7, .int (nI (zs_vc S (zs_ix (xs (nI (i + 1)).toNatClampNeg)) 10))), (6, .int (nI (zo_p S (zs_ix (xs (nI (i + 1)).toNatClampNeg))))), (0, .ref bq), (1, .ref (ad2 0 0)), (2, .ref (ad2 14 0)), (3, .ref (ad2 33 0)), (4, .ref (ad2 34 0))]) hx hb dL_law_2168 hl rfl (by decide) (by decide) rfl (fun ls hl => ?_)
          refine zb_goto (tgt := 28) hx hb dL_law_2171 (by decide) ?_
          have hcf := hce2
          exact kk _ S _ _ _ _ _ _ _ _ _ hG hS hD2 h62 hy.2 (by omega) (by omega) (lv_sub hl [3, 4, 5, 6, 7, 0] rfl)
        · exact absurd (zl_self _) c_1710
    · exact absurd (by rw [hy.1]) c_1693
  · have h3 : T2 = S := by
      rcases hmo with ⟨h, -⟩ | ⟨-, h⟩
      · exact absurd h hc1
      · exact h
    obtain rfl : S = S2 := h1.symm
    obtain rfl : S = T2 := h3.symm
    refine lv_istore (lv' := [(7, .int r_1682), (6, .int (nI (zo_p S (zs_ix (xs (nI (i + 1)).toNatClampNeg))))), (0, .ref bq), (1, .ref (ad2 0 0)), (2, .ref (ad2 14 0)), (3, .ref (ad2 33 0)), (4, .ref (ad2 34 0)), (5, .int (nI i))]) hx hb dL_law_1685 hl (by decide) rfl (fun ls hl => ?_)
    refine lv_aload_n hx hb dL_law_1687 rfl (lv_at hl 4 rfl) ?_
    refine zc_Vi (As := []) (rest := []) hK hZ hb0 hG hS hx hb hml hown hts (c_X7_thrown l ) (cwV 0 hts gL_law_X7_thrown rfl rfl rfl (by decide +kernel) ⟨Nat.le_of_ble_eq_true rfl, Nat.le_of_ble_eq_true rfl⟩) (za_recv (q := (RX7, TX7, 25)) hK hG 14 0 ⟨by omega, rfl⟩ rfl rfl rfl) rfl hl rfl (Nat.le_of_ble_eq_true rfl) dL_law_1688 ⟨by show _ ≤ 603072; omega, by show _ ≤ 7207018; omega⟩ (fun r_1688 u_1688 H locs hp hG hS => ?_)
    obtain ⟨rfl, rfl⟩ := hp
    refine lv_iload hx hb dL_law_1691 (lv_at hl 1 rfl) ?_
    refine lv_icmp_eq (tgt := 1698) hx hb dL_law_1693 (by decide) (fun c_1693 => ?_) (fun c_1693 => ?_)
    · refine lv_iload hx hb dL_law_1698 (lv_at hl 1 rfl) ?_
      refine zb_if_ne (x := zo_p S (zs_ix (xs (nI (i + 1)).toNatClampNeg))) (tgt := 1715) hx hb (by omega) dL_law_1700 (by decide) (fun c_1700 => ?_) (fun c_1700 => ?_)
      · refine zb_goto (tgt := 2168) hx hb dL_law_1715 (by decide) ?_
        refine zb_iinc (n := 3) (k := 7) (lv' := [(5, .int (nI (i + 3))), (7, .int r_1682), (6, .int (nI (zo_p S (zs_ix (xs (nI (i + 1)).toNatClampNeg))))), (0, .ref bq), (1, .ref (ad2 0 0)), (2, .ref (ad2 14 0)), (3, .ref (ad2 33 0)), (4, .ref (ad2 34 0))]) hx hb dL_law_2168 hl rfl (by decide) (by decide) rfl (fun ls hl => ?_)
        refine zb_goto (tgt := 28) hx hb dL_law_2171 (by decide) ?_
        exact kk _ S _ _ _ _ _ _ _ _ _ hG hS hD2 h62 hy.2 (by omega) (by omega) (lv_sub hl [3, 4, 5, 6, 7, 0] rfl)
      · exact absurd c_1700 hc1
    · exact absurd (by rw [hy.1]) c_1693

set_option maxRecDepth 100000 in
set_option maxHeartbeats 4000000 in
theorem lq_28 {p : Program} {l : Launch} {e : Env} {s : State} {m : MethodId} {below : List Frame} {meth : Method} {c : Code} {bq b L i : Nat} {xs : Nat → Int32} {E : za_E} (hl0 : l.stackTraces = false) (hL : L ≤ 1536) (C0 : lw_At p s m meth c bq L xs) (hK : za_K E s) (hZ : za_Z b s s.heap) (hAO : va_AO RX2 s) (hb0 : b ≤ s.heap.size) (hbA : ¬ za_A b bq) (hi : i + 3 ≤ L) (kk : zl_at p l e s m below meth c bq b E (i + 3))
    {ad : za_Ad} {S X Y : za_S} {ow : Int64} {dw : UInt64} {H : Heap} {locs : List Loc} {k n : Nat} {ls : Array Slot} (hG : za_G E b (ad, S, X, S, Y, ow, dw) H) (hS : va_S (za_A b) s.heap H locs) (hD : zs_D S X) (h6 : zs_6 S) (hY : zs_B Y) (hk : k ≤ 100 + 2 * i + zs_ce S) (hn : n ≤ 29000 + 14 * i + zs_sl S) (hl : lv_has ls 9 [(0, .ref bq), (1, .ref (ad 0 0)), (2, .ref (ad 14 0)), (3, .ref (ad 33 0)), (4, .ref (ad 34 0)), (5, .int (nI i))]) : W p l e room_1 s m #[Value.ref bq] below meth c H locs k n (lw_Z below #[Value.ref bq] s) (F0 m 1718 ls []) := by
  obtain ⟨hx, hb, hr, hml, hown, hts0, hX, hbl, hlocks, hgv⟩ := C0
  have hts : ∀ w ∈ wsL_law, w.before #[Value.ref bq] s = true := fun w h => hts0 w (wsL_law_in w h)
  have hce := zs_ce_le hD.1
  refine lv_aload_n hx hb dL_law_1718 rfl (lv_at hl 1 rfl) ?_
  refine zc_Vl (As := []) (rest := []) hK hZ hb0 hG hS hx hb hml hown hts (c_X6_sent l hD.C) (cwV 0 hts gL_law_X6_sent rfl rfl rfl (by decide +kernel) ⟨Nat.le_of_ble_eq_true rfl, Nat.le_of_ble_eq_true rfl⟩) (za_recv (q := (RX6, TX6, 11)) hK hG 0 0 ⟨by omega, rfl⟩ rfl rfl rfl) rfl hl rfl (Nat.le_of_ble_eq_true rfl) dL_law_1719 ⟨by show _ ≤ 603072; omega, by show _ ≤ 7207018; omega⟩ (fun r_1719 u_1719 H locs hp hG hS => ?_)
  obtain ⟨rfl, rfl⟩ := hp
  refine lv_aload_n hx hb dL_law_1722 rfl (lv_at hl 2 rfl) ?_
  refine zc_Vl (As := []) (rest := [.long (lN (S.1 0 4 0))]) hK hZ hb0 hG hS hx hb hml hown hts (c_X7_sent l (zw_D.M hD h6 hY)) (cwV 0 hts gL_law_X7_sent rfl rfl rfl (by decide +kernel) ⟨Nat.le_of_ble_eq_true rfl, Nat.le_of_ble_eq_true rfl⟩) (za_recv (q := (RX7, TX7, 25)) hK hG 14 0 ⟨by omega, rfl⟩ rfl rfl rfl) rfl hl rfl (Nat.le_of_ble_eq_true rfl) dL_law_1723 ⟨by show _ ≤ 603072; omega, by show _ ≤ 7207018; omega⟩ (fun r_1723 u_1723 H locs hp hG hS => ?_)
  obtain ⟨T2, Y2, rfl, hy, hmo⟩ := hp
  obtain ⟨h1, h2⟩ : T2 = S ∧ r_1723 = lN (S.1 0 4 0) := by
    rcases hmo with h | ⟨h, -⟩
    · exact h.2
    · exact absurd rfl h
  obtain rfl : S = T2 := h1.symm
  subst h2
  refine W.lcmp hx hb dL_law_1726 ?_
  refine lv_if_eq (tgt := 2168) hx hb dL_law_1727 (by decide) (fun c_1727 => ?_) (fun c_1727 => ?_)
  · refine zb_iinc (n := 3) (k := 5) (lv' := [(5, .int (nI (i + 3))), (0, .ref bq), (1, .ref (ad 0 0)), (2, .ref (ad 14 0)), (3, .ref (ad 33 0)), (4, .ref (ad 34 0))]) hx hb dL_law_2168 hl rfl (by decide) (by decide) rfl (fun ls hl => ?_)
    refine zb_goto (tgt := 28) hx hb dL_law_2171 (by decide) ?_
    exact kk _ S _ _ _ _ _ _ _ _ _ hG hS hD h6 hy.2 (by omega) (by omega) (lv_sub hl [1, 2, 3, 4, 5, 0] rfl)
  · exact absurd (zl_self _) c_1727

set_option maxRecDepth 100000 in
set_option maxHeartbeats 4000000 in
theorem lq_29 {p : Program} {l : Launch} {e : Env} {s : State} {m : MethodId} {below : List Frame} {meth : Method} {c : Code} {bq b L i : Nat} {xs : Nat → Int32} {E : za_E} (hl0 : l.stackTraces = false) (hL : L ≤ 1536) (C0 : lw_At p s m meth c bq L xs) (hK : za_K E s) (hZ : za_Z b s s.heap) (hAO : va_AO RX2 s) (hb0 : b ≤ s.heap.size) (hbA : ¬ za_A b bq) (hi : i + 3 ≤ L) (kk : zl_at p l e s m below meth c bq b E (i + 3))
    {ad : za_Ad} {S X Y : za_S} {ow : Int64} {dw : UInt64} {H : Heap} {locs : List Loc} {k n : Nat} {ls : Array Slot} (hG : za_G E b (ad, S, X, S, Y, ow, dw) H) (hS : va_S (za_A b) s.heap H locs) (hD : zs_D S X) (h6 : zs_6 S) (hY : zs_B Y) (hk : k ≤ 100 + 2 * i + zs_ce S) (hn : n ≤ 29000 + 14 * i + zs_sl S) (hl : lv_has ls 9 [(0, .ref bq), (1, .ref (ad 0 0)), (2, .ref (ad 14 0)), (3, .ref (ad 33 0)), (4, .ref (ad 34 0)), (5, .int (nI i))]) : W p l e room_1 s m #[Value.ref bq] below meth c H locs k n (lw_Z below #[Value.ref bq] s) (F0 m 1732 ls []) := by
  obtain ⟨hx, hb, hr, hml, hown, hts0, hX, hbl, hlocks, hgv⟩ := C0
  have hts : ∀ w ∈ wsL_law, w.before #[Value.ref bq] s = true := fun w h => hts0 w (wsL_law_in w h)
  have hce := zs_ce_le hD.1
  refine lv_aload_n hx hb dL_law_1732 rfl (lv_at hl 1 rfl) ?_
  refine lv_aload hx hb dL_law_1733 (lv_at hl 4 rfl) ?_
  refine zc_LSi (As := [.ref (ad 0 0), .ref (ad 34 0)]) (rest := []) hK hZ hAO hb0 hG hS hx hb hml hown hts (c_L_meanLayer l hl0 hD) (vx_cwSW 2 hts gL_law_L_meanLayer rfl rfl rfl (by decide +kernel) ⟨Nat.le_of_ble_eq_true rfl, Nat.le_of_ble_eq_true rfl⟩) rfl hl rfl (Nat.le_of_ble_eq_true rfl) dL_law_1735 ⟨by show _ ≤ 603072; omega, by show _ ≤ 7207018; omega⟩ (fun r_1735 u_1735 H locs hp hG hS => ?_)
  obtain ⟨dw2, rfl, rfl, hdo⟩ := hp
  have hCb : zo_md S < 2 ^ 31 := by
    unfold zo_md
    repeat' split
    all_goals decide
  refine lv_istore (lv' := [(6, .int (nI (zo_md S))), (0, .ref bq), (1, .ref (ad 0 0)), (2, .ref (ad 14 0)), (3, .ref (ad 33 0)), (4, .ref (ad 34 0)), (5, .int (nI i))]) hx hb dL_law_1738 hl (by decide) rfl (fun ls hl => ?_)
  refine lv_aload_n hx hb dL_law_1740 rfl (lv_at hl 3 rfl) ?_
  refine zc_Vd (As := []) (rest := []) hK hZ hb0 hG hS hx hb hml hown hts (c_X7_meanLayer l (zw_D.M hD h6 hY)) (cwV 0 hts gL_law_X7_meanLayer rfl rfl rfl (by decide +kernel) ⟨Nat.le_of_ble_eq_true rfl, Nat.le_of_ble_eq_true rfl⟩) (za_recv (q := (RX7, TX7, 25)) hK hG 14 0 ⟨by omega, rfl⟩ rfl rfl rfl) rfl hl rfl (Nat.le_of_ble_eq_true rfl) dL_law_1741 ⟨by show _ ≤ 603072; omega, by show _ ≤ 7207018; omega⟩ (fun r_1741 u_1741 H locs hp hG hS => ?_)
  obtain ⟨T2, Y2, rfl, hy, hmo⟩ := hp
  by_cases hc0 : zo_md S = 0
  · have h2 := hdo hc0
    obtain ⟨-, h3, h4⟩ : zo_md S = 0 ∧ T2 = S ∧ r_1741 = zs_md S := by
      rcases hmo with h | ⟨h, -⟩
      · exact h
      · exact absurd hc0 h
    obtain rfl : S = T2 := h3.symm
    subst h2
    subst h4
    refine lv_dstore (lv' := [(7, .double (zs_md S)), (6, .int (nI (zo_md S))), (0, .ref bq), (1, .ref (ad 0 0)), (2, .ref (ad 14 0)), (3, .ref (ad 33 0)), (4, .ref (ad 34 0)), (5, .int (nI i))]) hx hb dL_law_1744 hl (by decide) rfl (fun ls hl => ?_)
    refine lv_aload_n hx hb dL_law_1746 rfl (lv_at hl 4 rfl) ?_
    refine zc_Vi (As := []) (rest := []) hK hZ hb0 hG hS hx hb hml hown hts (c_X7_thrown l ) (cwV 0 hts gL_law_X7_thrown rfl rfl rfl (by decide +kernel) ⟨Nat.le_of_ble_eq_true rfl, Nat.le_of_ble_eq_true rfl⟩) (za_recv (q := (RX7, TX7, 25)) hK hG 14 0 ⟨by omega, rfl⟩ rfl rfl rfl) rfl hl rfl (Nat.le_of_ble_eq_true rfl) dL_law_1747 ⟨by show _ ≤ 603072; omega, by show _ ≤ 7207018; omega⟩ (fun r_1747 u_1747 H locs hp hG hS => ?_)
    obtain ⟨rfl, rfl⟩ := hp
    refine lv_iload hx hb dL_law_1750 (lv_at hl 1 rfl) ?_
    refine lv_icmp_eq (tgt := 1757) hx hb dL_law_1752 (by decide) (fun c_1752 => ?_) (fun c_1752 => ?_)
    · refine lv_iload hx hb dL_law_1757 (lv_at hl 1 rfl) ?_
      refine zb_if_ne (x := zo_md S) (tgt := 1794) hx hb (by omega) dL_law_1759 (by decide) (fun c_1759 => ?_) (fun c_1759 => ?_)
      · exact absurd hc0 c_1759
      · refine lv_aload hx hb dL_law_1762 (lv_at hl 6 rfl) ?_
        refine zb_iconst (n := 0) hx hb dL_law_1764 (by decide) ?_
        refine zld_OD hx hb hK hG (by omega) rfl dL_law_1765 ?_
        refine lv_dload hx hb dL_law_1766 (lv_at hl 0 rfl) ?_
        refine lv_dcmp hx hb dL_law_1768 ?_
        refine lv_if_eq (tgt := 1794) hx hb dL_law_1769 (by decide) (fun c_1769 => ?_) (fun c_1769 => ?_)
        · refine zb_goto (tgt := 2168) hx hb dL_law_1794 (by decide) ?_
          refine zb_iinc (n := 3) (k := 7) (lv' := [(5, .int (nI (i + 3))), (7, .double (zs_md S)), (6, .int (nI (zo_md S))), (0, .ref bq), (1, .ref (ad 0 0)), (2, .ref (ad 14 0)), (3, .ref (ad 33 0)), (4, .ref (ad 34 0))]) hx hb dL_law_2168 hl rfl (by decide) (by decide) rfl (fun ls hl => ?_)
          refine zb_goto (tgt := 28) hx hb dL_law_2171 (by decide) ?_
          exact kk _ S _ _ _ _ _ _ _ _ _ hG hS hD h6 hy.2 (by omega) (by omega) (lv_sub hl [3, 4, 5, 6, 7, 0] rfl)
        · exact absurd (zl_cv (zs_md_n (zo_md0 hc0))) c_1769
    · exact absurd (by rw [hy.1]) c_1752
  · have hc1 := hc0
    have h3 : T2 = S := by
      rcases hmo with ⟨h, -⟩ | ⟨-, h⟩
      · exact absurd h hc1
      · exact h
    obtain rfl : S = T2 := h3.symm
    refine lv_dstore (lv' := [(7, .double r_1741), (6, .int (nI (zo_md S))), (0, .ref bq), (1, .ref (ad 0 0)), (2, .ref (ad 14 0)), (3, .ref (ad 33 0)), (4, .ref (ad 34 0)), (5, .int (nI i))]) hx hb dL_law_1744 hl (by decide) rfl (fun ls hl => ?_)
    refine lv_aload_n hx hb dL_law_1746 rfl (lv_at hl 4 rfl) ?_
    refine zc_Vi (As := []) (rest := []) hK hZ hb0 hG hS hx hb hml hown hts (c_X7_thrown l ) (cwV 0 hts gL_law_X7_thrown rfl rfl rfl (by decide +kernel) ⟨Nat.le_of_ble_eq_true rfl, Nat.le_of_ble_eq_true rfl⟩) (za_recv (q := (RX7, TX7, 25)) hK hG 14 0 ⟨by omega, rfl⟩ rfl rfl rfl) rfl hl rfl (Nat.le_of_ble_eq_true rfl) dL_law_1747 ⟨by show _ ≤ 603072; omega, by show _ ≤ 7207018; omega⟩ (fun r_1747 u_1747 H locs hp hG hS => ?_)
    obtain ⟨rfl, rfl⟩ := hp
    refine lv_iload hx hb dL_law_1750 (lv_at hl 1 rfl) ?_
    refine lv_icmp_eq (tgt := 1757) hx hb dL_law_1752 (by decide) (fun c_1752 => ?_) (fun c_1752 => ?_)
    · refine lv_iload hx hb dL_law_1757 (lv_at hl 1 rfl) ?_
      refine zb_if_ne (x := zo_md S) (tgt := 1794) hx hb (by omega) dL_law_1759 (by decide) (fun c_1759 => ?_) (fun c_1759 => ?_)
      · refine zb_goto (tgt := 2168) hx hb dL_law_1794 (by decide) ?_
        refine zb_iinc (n := 3) (k := 7) (lv' := [(5, .int (nI (i + 3))), (7, .double r_1741), (6, .int (nI (zo_md S))), (0, .ref bq), (1, .ref (ad 0 0)), (2, .ref (ad 14 0)), (3, .ref (ad 33 0)), (4, .ref (ad 34 0))]) hx hb dL_law_2168 hl rfl (by decide) (by decide) rfl (fun ls hl => ?_)
        refine zb_goto (tgt := 28) hx hb dL_law_2171 (by decide) ?_
        exact kk _ S _ _ _ _ _ _ _ _ _ hG hS hD h6 hy.2 (by omega) (by omega) (lv_sub hl [3, 4, 5, 6, 7, 0] rfl)
      · exact absurd c_1759 hc1
    · exact absurd (by rw [hy.1]) c_1752

set_option maxRecDepth 100000 in
set_option maxHeartbeats 4000000 in
theorem lq_30 {p : Program} {l : Launch} {e : Env} {s : State} {m : MethodId} {below : List Frame} {meth : Method} {c : Code} {bq b L i : Nat} {xs : Nat → Int32} {E : za_E} (hl0 : l.stackTraces = false) (hL : L ≤ 1536) (C0 : lw_At p s m meth c bq L xs) (hK : za_K E s) (hZ : za_Z b s s.heap) (hAO : va_AO RX2 s) (hb0 : b ≤ s.heap.size) (hbA : ¬ za_A b bq) (hi : i + 3 ≤ L) (kk : zl_at p l e s m below meth c bq b E (i + 3))
    {ad : za_Ad} {S X Y : za_S} {ow : Int64} {dw : UInt64} {H : Heap} {locs : List Loc} {k n : Nat} {ls : Array Slot} (hG : za_G E b (ad, S, X, S, Y, ow, dw) H) (hS : va_S (za_A b) s.heap H locs) (hD : zs_D S X) (h6 : zs_6 S) (hY : zs_B Y) (hk : k ≤ 100 + 2 * i + zs_ce S) (hn : n ≤ 29000 + 14 * i + zs_sl S) (hl : lv_has ls 9 [(0, .ref bq), (1, .ref (ad 0 0)), (2, .ref (ad 14 0)), (3, .ref (ad 33 0)), (4, .ref (ad 34 0)), (5, .int (nI i))]) : W p l e room_1 s m #[Value.ref bq] below meth c H locs k n (lw_Z below #[Value.ref bq] s) (F0 m 1797 ls []) := by
  obtain ⟨hx, hb, hr, hml, hown, hts0, hX, hbl, hlocks, hgv⟩ := C0
  have hts : ∀ w ∈ wsL_law, w.before #[Value.ref bq] s = true := fun w h => hts0 w (wsL_law_in w h)
  have hce := zs_ce_le hD.1
  refine lv_aload_n hx hb dL_law_1797 rfl (lv_at hl 1 rfl) ?_
  refine lv_aload hx hb dL_law_1798 (lv_at hl 4 rfl) ?_
  refine zc_LSi (As := [.ref (ad 0 0), .ref (ad 34 0)]) (rest := []) hK hZ hAO hb0 hG hS hx hb hml hown hts (c_L_usedShare l hl0 hD) (vx_cwSW 2 hts gL_law_L_usedShare rfl rfl rfl (by decide +kernel) ⟨Nat.le_of_ble_eq_true rfl, Nat.le_of_ble_eq_true rfl⟩) rfl hl rfl (Nat.le_of_ble_eq_true rfl) dL_law_1800 ⟨by show _ ≤ 603072; omega, by show _ ≤ 7207018; omega⟩ (fun r_1800 u_1800 H locs hp hG hS => ?_)
  obtain ⟨dw2, rfl, rfl, hdo⟩ := hp
  have hCb : zo_shr S < 2 ^ 31 := by
    unfold zo_shr
    repeat' split
    all_goals decide
  refine lv_istore (lv' := [(6, .int (nI (zo_shr S))), (0, .ref bq), (1, .ref (ad 0 0)), (2, .ref (ad 14 0)), (3, .ref (ad 33 0)), (4, .ref (ad 34 0)), (5, .int (nI i))]) hx hb dL_law_1803 hl (by decide) rfl (fun ls hl => ?_)
  refine lv_aload_n hx hb dL_law_1805 rfl (lv_at hl 3 rfl) ?_
  refine zc_Vf (As := []) (rest := []) hK hZ hb0 hG hS hx hb hml hown hts (c_X7_usedShare l (zw_D.M hD h6 hY)) (cwV 0 hts gL_law_X7_usedShare rfl rfl rfl (by decide +kernel) ⟨Nat.le_of_ble_eq_true rfl, Nat.le_of_ble_eq_true rfl⟩) (za_recv (q := (RX7, TX7, 25)) hK hG 14 0 ⟨by omega, rfl⟩ rfl rfl rfl) rfl hl rfl (Nat.le_of_ble_eq_true rfl) dL_law_1806 ⟨by show _ ≤ 603072; omega, by show _ ≤ 7207018; omega⟩ (fun r_1806 u_1806 H locs hp hG hS => ?_)
  obtain ⟨T2, Y2, rfl, hy, hmo⟩ := hp
  by_cases hc0 : zo_shr S = 0
  · have h2 := hdo hc0
    obtain ⟨-, h3, h4⟩ : zo_shr S = 0 ∧ T2 = S ∧ r_1806 = zs_shr S := by
      rcases hmo with h | ⟨h, -⟩
      · exact h
      · exact absurd hc0 h
    obtain rfl : S = T2 := h3.symm
    subst h2
    subst h4
    refine lv_fstore (lv' := [(7, .float (zs_shr S)), (6, .int (nI (zo_shr S))), (0, .ref bq), (1, .ref (ad 0 0)), (2, .ref (ad 14 0)), (3, .ref (ad 33 0)), (4, .ref (ad 34 0)), (5, .int (nI i))]) hx hb dL_law_1809 hl (by decide) rfl (fun ls hl => ?_)
    refine lv_aload_n hx hb dL_law_1811 rfl (lv_at hl 4 rfl) ?_
    refine zc_Vi (As := []) (rest := []) hK hZ hb0 hG hS hx hb hml hown hts (c_X7_thrown l ) (cwV 0 hts gL_law_X7_thrown rfl rfl rfl (by decide +kernel) ⟨Nat.le_of_ble_eq_true rfl, Nat.le_of_ble_eq_true rfl⟩) (za_recv (q := (RX7, TX7, 25)) hK hG 14 0 ⟨by omega, rfl⟩ rfl rfl rfl) rfl hl rfl (Nat.le_of_ble_eq_true rfl) dL_law_1812 ⟨by show _ ≤ 603072; omega, by show _ ≤ 7207018; omega⟩ (fun r_1812 u_1812 H locs hp hG hS => ?_)
    obtain ⟨rfl, rfl⟩ := hp
    refine lv_iload hx hb dL_law_1815 (lv_at hl 1 rfl) ?_
    refine lv_icmp_eq (tgt := 1822) hx hb dL_law_1817 (by decide) (fun c_1817 => ?_) (fun c_1817 => ?_)
    · refine lv_iload hx hb dL_law_1822 (lv_at hl 1 rfl) ?_
      refine zb_if_ne (x := zo_shr S) (tgt := 1860) hx hb (by omega) dL_law_1824 (by decide) (fun c_1824 => ?_) (fun c_1824 => ?_)
      · exact absurd hc0 c_1824
      · refine lv_aload hx hb dL_law_1827 (lv_at hl 6 rfl) ?_
        refine zb_iconst (n := 0) hx hb dL_law_1829 (by decide) ?_
        refine zld_OD hx hb hK hG (by omega) rfl dL_law_1830 ?_
        refine lv_fload hx hb dL_law_1831 (lv_at hl 0 rfl) ?_
        refine lv_f2d hx hb dL_law_1833 (zf_n64 (zf_f2d (zs_shr_n hD.1 (zo_shr0 hc0)))) ?_
        refine lv_dcmp hx hb dL_law_1834 ?_
        refine lv_if_eq (tgt := 1860) hx hb dL_law_1835 (by decide) (fun c_1835 => ?_) (fun c_1835 => ?_)
        · refine zb_goto (tgt := 2168) hx hb dL_law_1860 (by decide) ?_
          refine zb_iinc (n := 3) (k := 7) (lv' := [(5, .int (nI (i + 3))), (7, .float (zs_shr S)), (6, .int (nI (zo_shr S))), (0, .ref bq), (1, .ref (ad 0 0)), (2, .ref (ad 14 0)), (3, .ref (ad 33 0)), (4, .ref (ad 34 0))]) hx hb dL_law_2168 hl rfl (by decide) (by decide) rfl (fun ls hl => ?_)
          refine zb_goto (tgt := 28) hx hb dL_law_2171 (by decide) ?_
          exact kk _ S _ _ _ _ _ _ _ _ _ hG hS hD h6 hy.2 (by omega) (by omega) (lv_sub hl [3, 4, 5, 6, 7, 0] rfl)
        · exact absurd (zl_cv (zf_f2d (zs_shr_n hD.1 (zo_shr0 hc0)))) c_1835
    · exact absurd (by rw [hy.1]) c_1817
  · have hc1 := hc0
    have h3 : T2 = S := by
      rcases hmo with ⟨h, -⟩ | ⟨-, h⟩
      · exact absurd h hc1
      · exact h
    obtain rfl : S = T2 := h3.symm
    refine lv_fstore (lv' := [(7, .float r_1806), (6, .int (nI (zo_shr S))), (0, .ref bq), (1, .ref (ad 0 0)), (2, .ref (ad 14 0)), (3, .ref (ad 33 0)), (4, .ref (ad 34 0)), (5, .int (nI i))]) hx hb dL_law_1809 hl (by decide) rfl (fun ls hl => ?_)
    refine lv_aload_n hx hb dL_law_1811 rfl (lv_at hl 4 rfl) ?_
    refine zc_Vi (As := []) (rest := []) hK hZ hb0 hG hS hx hb hml hown hts (c_X7_thrown l ) (cwV 0 hts gL_law_X7_thrown rfl rfl rfl (by decide +kernel) ⟨Nat.le_of_ble_eq_true rfl, Nat.le_of_ble_eq_true rfl⟩) (za_recv (q := (RX7, TX7, 25)) hK hG 14 0 ⟨by omega, rfl⟩ rfl rfl rfl) rfl hl rfl (Nat.le_of_ble_eq_true rfl) dL_law_1812 ⟨by show _ ≤ 603072; omega, by show _ ≤ 7207018; omega⟩ (fun r_1812 u_1812 H locs hp hG hS => ?_)
    obtain ⟨rfl, rfl⟩ := hp
    refine lv_iload hx hb dL_law_1815 (lv_at hl 1 rfl) ?_
    refine lv_icmp_eq (tgt := 1822) hx hb dL_law_1817 (by decide) (fun c_1817 => ?_) (fun c_1817 => ?_)
    · refine lv_iload hx hb dL_law_1822 (lv_at hl 1 rfl) ?_
      refine zb_if_ne (x := zo_shr S) (tgt := 1860) hx hb (by omega) dL_law_1824 (by decide) (fun c_1824 => ?_) (fun c_1824 => ?_)
      · refine zb_goto (tgt := 2168) hx hb dL_law_1860 (by decide) ?_
        refine zb_iinc (n := 3) (k := 7) (lv' := [(5, .int (nI (i + 3))), (7, .float r_1806), (6, .int (nI (zo_shr S))), (0, .ref bq), (1, .ref (ad 0 0)), (2, .ref (ad 14 0)), (3, .ref (ad 33 0)), (4, .ref (ad 34 0))]) hx hb dL_law_2168 hl rfl (by decide) (by decide) rfl (fun ls hl => ?_)
        refine zb_goto (tgt := 28) hx hb dL_law_2171 (by decide) ?_
        exact kk _ S _ _ _ _ _ _ _ _ _ hG hS hD h6 hy.2 (by omega) (by omega) (lv_sub hl [3, 4, 5, 6, 7, 0] rfl)
      · exact absurd c_1824 hc1
    · exact absurd (by rw [hy.1]) c_1817

set_option maxRecDepth 100000 in
set_option maxHeartbeats 4000000 in
theorem lq_31 {p : Program} {l : Launch} {e : Env} {s : State} {m : MethodId} {below : List Frame} {meth : Method} {c : Code} {bq b L i : Nat} {xs : Nat → Int32} {E : za_E} (hl0 : l.stackTraces = false) (hL : L ≤ 1536) (C0 : lw_At p s m meth c bq L xs) (hK : za_K E s) (hZ : za_Z b s s.heap) (hAO : va_AO RX2 s) (hb0 : b ≤ s.heap.size) (hbA : ¬ za_A b bq) (hi : i + 3 ≤ L) (kk : zl_at p l e s m below meth c bq b E (i + 3))
    {ad : za_Ad} {S X Y : za_S} {ow : Int64} {dw : UInt64} {H : Heap} {locs : List Loc} {k n : Nat} {ls : Array Slot} (hG : za_G E b (ad, S, X, S, Y, ow, dw) H) (hS : va_S (za_A b) s.heap H locs) (hD : zs_D S X) (h6 : zs_6 S) (hY : zs_B Y) (hk : k ≤ 100 + 2 * i + zs_ce S) (hn : n ≤ 29000 + 14 * i + zs_sl S) (hl : lv_has ls 9 [(0, .ref bq), (1, .ref (ad 0 0)), (2, .ref (ad 14 0)), (3, .ref (ad 33 0)), (4, .ref (ad 34 0)), (5, .int (nI i))]) : W p l e room_1 s m #[Value.ref bq] below meth c H locs k n (lw_Z below #[Value.ref bq] s) (F0 m 1863 ls []) := by
  obtain ⟨hx, hb, hr, hml, hown, hts0, hX, hbl, hlocks, hgv⟩ := C0
  have hts : ∀ w ∈ wsL_law, w.before #[Value.ref bq] s = true := fun w h => hts0 w (wsL_law_in w h)
  have hce := zs_ce_le hD.1
  refine lv_aload_n hx hb dL_law_1863 rfl (lv_at hl 1 rfl) ?_
  refine lv_aload_n hx hb dL_law_1864 rfl (lv_at hl 0 rfl) ?_
  refine lv_iload hx hb dL_law_1865 (lv_at hl 5 rfl) ?_
  refine zb_iconst (n := 1) hx hb dL_law_1867 (by decide) ?_
  refine zb_iadd hx hb dL_law_1868 ?_
  refine va_sld hx hb hX hbl hbA hS (vp_in_nI (by omega) (by omega)) dL_law_1869 ?_
  refine lv_aload_n hx hb dL_law_1870 rfl (lv_at hl 3 rfl) ?_
  refine zc_LSi (As := [.ref (ad 0 0), .int (xs (nI (i + 1)).toNatClampNeg), .ref (ad 33 0)]) (rest := []) hK hZ hAO hb0 hG hS hx hb hml hown hts (c_L_record l hl0 (xs (nI (i + 1)).toNatClampNeg) hD h6) (vx_cwSW 3 hts gL_law_L_record rfl rfl rfl (by decide +kernel) ⟨Nat.le_of_ble_eq_true rfl, Nat.le_of_ble_eq_true rfl⟩) rfl hl rfl (Nat.le_of_ble_eq_true rfl) dL_law_1871 ⟨by show _ ≤ 603072; omega, by show _ ≤ 7207018; omega⟩ (fun r_1871 u_1871 H locs hp hG hS => ?_)
  obtain ⟨ad2, S2, X2, ow2, rfl, rfl, hsm, hD2, h62, hal⟩ := hp
  have hCb : zo_rec S (zs_ix (xs (nI (i + 1)).toNatClampNeg)) < 2 ^ 31 := by
    unfold zo_rec
    repeat' split
    all_goals decide
  rw [← hsm 0 (by omega), ← hsm 14 (by omega), ← hsm 33 (by omega), ← hsm 34 (by omega)] at hl
  refine lv_istore (lv' := [(6, .int (nI (zo_rec S (zs_ix (xs (nI (i + 1)).toNatClampNeg))))), (0, .ref bq), (1, .ref (ad2 0 0)), (2, .ref (ad2 14 0)), (3, .ref (ad2 33 0)), (4, .ref (ad2 34 0)), (5, .int (nI i))]) hx hb dL_law_1874 hl (by decide) rfl (fun ls hl => ?_)
  refine lv_aload_n hx hb dL_law_1876 rfl (lv_at hl 3 rfl) ?_
  refine lv_aload_n hx hb dL_law_1877 rfl (lv_at hl 1 rfl) ?_
  refine lv_iload hx hb dL_law_1878 (lv_at hl 6 rfl) ?_
  refine zb_iconst (n := 1) hx hb dL_law_1880 (by decide) ?_
  refine zb_iadd hx hb dL_law_1881 ?_
  refine va_sld hx hb hX hbl hbA hS (vp_in_nI (by omega) (by omega)) dL_law_1882 ?_
  refine zc_Vi (As := [.int (xs (nI (i + 1)).toNatClampNeg)]) (rest := []) hK hZ hb0 hG hS hx hb hml hown hts (c_X7_record l (xs (nI (i + 1)).toNatClampNeg) (zw_D.M hD h6 hY)) (cwV 1 hts gL_law_X7_record rfl rfl rfl (by decide +kernel) ⟨Nat.le_of_ble_eq_true rfl, Nat.le_of_ble_eq_true rfl⟩) (za_recv (q := (RX7, TX7, 25)) hK hG 14 0 ⟨by omega, rfl⟩ rfl rfl rfl) rfl hl rfl (Nat.le_of_ble_eq_true rfl) dL_law_1883 ⟨by show _ ≤ 603072; omega, by show _ ≤ 7207018; omega⟩ (fun r_1883 u_1883 H locs hp hG hS => ?_)
  obtain ⟨T2, Y2, rfl, hy, hmo⟩ := hp
  rcases hal with ⟨hc0, h1, h2⟩ | ⟨hc1, h1⟩
  · obtain ⟨-, h3, h4⟩ : zo_rec S (zs_ix (xs (nI (i + 1)).toNatClampNeg)) = 0 ∧ T2 = zs_nk S (zs_ix (xs (nI (i + 1)).toNatClampNeg)) ∧ r_1883 = nI (S.1 0 2 0) := by
      rcases hmo with h | ⟨h, -⟩
      · exact h
      · exact absurd hc0 h
    have hce2 : zs_ce S ≤ zs_ce (zs_nk S (zs_ix (xs (nI (i + 1)).toNatClampNeg))) ∧ zs_sl S ≤ zs_sl (zs_nk S (zs_ix (xs (nI (i + 1)).toNatClampNeg))) := zl_7 rfl
    subst h1
    subst h3
    subst h2
    subst h4
    refine lv_istore (lv' := [(7, .int (nI (S.1 0 2 0))), (6, .int (nI (zo_rec S (zs_ix (xs (nI (i + 1)).toNatClampNeg))))), (0, .ref bq), (1, .ref (ad2 0 0)), (2, .ref (ad2 14 0)), (3, .ref (ad2 33 0)), (4, .ref (ad2 34 0)), (5, .int (nI i))]) hx hb dL_law_1886 hl (by decide) rfl (fun ls hl => ?_)
    refine lv_aload_n hx hb dL_law_1888 rfl (lv_at hl 4 rfl) ?_
    refine zc_Vi (As := []) (rest := []) hK hZ hb0 hG hS hx hb hml hown hts (c_X7_thrown l ) (cwV 0 hts gL_law_X7_thrown rfl rfl rfl (by decide +kernel) ⟨Nat.le_of_ble_eq_true rfl, Nat.le_of_ble_eq_true rfl⟩) (za_recv (q := (RX7, TX7, 25)) hK hG 14 0 ⟨by omega, rfl⟩ rfl rfl rfl) rfl hl rfl (Nat.le_of_ble_eq_true rfl) dL_law_1889 ⟨by show _ ≤ 603072; omega, by show _ ≤ 7207018; omega⟩ (fun r_1889 u_1889 H locs hp hG hS => ?_)
    obtain ⟨rfl, rfl⟩ := hp
    refine lv_iload hx hb dL_law_1892 (lv_at hl 1 rfl) ?_
    refine lv_icmp_eq (tgt := 1899) hx hb dL_law_1894 (by decide) (fun c_1894 => ?_) (fun c_1894 => ?_)
    · refine lv_iload hx hb dL_law_1899 (lv_at hl 1 rfl) ?_
      refine zb_if_ne (x := zo_rec S (zs_ix (xs (nI (i + 1)).toNatClampNeg))) (tgt := 1916) hx hb (by omega) dL_law_1901 (by decide) (fun c_1901 => ?_) (fun c_1901 => ?_)
      · exact absurd hc0 c_1901
      · refine lv_aload_n hx hb dL_law_1904 rfl (lv_at hl 5 rfl) ?_
        refine zb_iconst (n := 0) hx hb dL_law_1905 (by decide) ?_
        refine zld_OL hx hb hK hG (by omega) rfl dL_law_1906 ?_
        refine lv_iload hx hb dL_law_1907 (lv_at hl 0 rfl) ?_
        refine lv_i2l hx hb dL_law_1909 rfl ?_
        refine W.lcmp hx hb dL_law_1910 ?_
        refine lv_if_eq (tgt := 1916) hx hb dL_law_1911 (by decide) (fun c_1911 => ?_) (fun c_1911 => ?_)
        · refine zb_goto (tgt := 2168) hx hb dL_law_1916 (by decide) ?_
          refine zb_iinc (n := 3) (k := 7) (lv' := [(5, .int (nI (i + 3))), (7, .int (nI (S.1 0 2 0))), (6, .int (nI (zo_rec S (zs_ix (xs (nI (i + 1)).toNatClampNeg))))), (0, .ref bq), (1, .ref (ad2 0 0)), (2, .ref (ad2 14 0)), (3, .ref (ad2 33 0)), (4, .ref (ad2 34 0))]) hx hb dL_law_2168 hl rfl (by decide) (by decide) rfl (fun ls hl => ?_)
          refine zb_goto (tgt := 28) hx hb dL_law_2171 (by decide) ?_
          have hcf := hce2
          exact kk _ (zs_nk S (zs_ix (xs (nI (i + 1)).toNatClampNeg))) _ _ _ _ _ _ _ _ _ hG hS hD2 h62 hy.2 (by omega) (by omega) (lv_sub hl [3, 4, 5, 6, 7, 0] rfl)
        · exact absurd (zl_self _) c_1911
    · exact absurd (by rw [hy.1]) c_1894
  · have h3 : T2 = S := by
      rcases hmo with ⟨h, -⟩ | ⟨-, h⟩
      · exact absurd h hc1
      · exact h
    obtain rfl : S = S2 := h1.symm
    obtain rfl : S = T2 := h3.symm
    refine lv_istore (lv' := [(7, .int r_1883), (6, .int (nI (zo_rec S (zs_ix (xs (nI (i + 1)).toNatClampNeg))))), (0, .ref bq), (1, .ref (ad2 0 0)), (2, .ref (ad2 14 0)), (3, .ref (ad2 33 0)), (4, .ref (ad2 34 0)), (5, .int (nI i))]) hx hb dL_law_1886 hl (by decide) rfl (fun ls hl => ?_)
    refine lv_aload_n hx hb dL_law_1888 rfl (lv_at hl 4 rfl) ?_
    refine zc_Vi (As := []) (rest := []) hK hZ hb0 hG hS hx hb hml hown hts (c_X7_thrown l ) (cwV 0 hts gL_law_X7_thrown rfl rfl rfl (by decide +kernel) ⟨Nat.le_of_ble_eq_true rfl, Nat.le_of_ble_eq_true rfl⟩) (za_recv (q := (RX7, TX7, 25)) hK hG 14 0 ⟨by omega, rfl⟩ rfl rfl rfl) rfl hl rfl (Nat.le_of_ble_eq_true rfl) dL_law_1889 ⟨by show _ ≤ 603072; omega, by show _ ≤ 7207018; omega⟩ (fun r_1889 u_1889 H locs hp hG hS => ?_)
    obtain ⟨rfl, rfl⟩ := hp
    refine lv_iload hx hb dL_law_1892 (lv_at hl 1 rfl) ?_
    refine lv_icmp_eq (tgt := 1899) hx hb dL_law_1894 (by decide) (fun c_1894 => ?_) (fun c_1894 => ?_)
    · refine lv_iload hx hb dL_law_1899 (lv_at hl 1 rfl) ?_
      refine zb_if_ne (x := zo_rec S (zs_ix (xs (nI (i + 1)).toNatClampNeg))) (tgt := 1916) hx hb (by omega) dL_law_1901 (by decide) (fun c_1901 => ?_) (fun c_1901 => ?_)
      · refine zb_goto (tgt := 2168) hx hb dL_law_1916 (by decide) ?_
        refine zb_iinc (n := 3) (k := 7) (lv' := [(5, .int (nI (i + 3))), (7, .int r_1883), (6, .int (nI (zo_rec S (zs_ix (xs (nI (i + 1)).toNatClampNeg))))), (0, .ref bq), (1, .ref (ad2 0 0)), (2, .ref (ad2 14 0)), (3, .ref (ad2 33 0)), (4, .ref (ad2 34 0))]) hx hb dL_law_2168 hl rfl (by decide) (by decide) rfl (fun ls hl => ?_)
        refine zb_goto (tgt := 28) hx hb dL_law_2171 (by decide) ?_
        exact kk _ S _ _ _ _ _ _ _ _ _ hG hS hD2 h62 hy.2 (by omega) (by omega) (lv_sub hl [3, 4, 5, 6, 7, 0] rfl)
      · exact absurd c_1901 hc1
    · exact absurd (by rw [hy.1]) c_1894

set_option maxRecDepth 100000 in
set_option maxHeartbeats 4000000 in
theorem lq_32 {p : Program} {l : Launch} {e : Env} {s : State} {m : MethodId} {below : List Frame} {meth : Method} {c : Code} {bq b L i : Nat} {xs : Nat → Int32} {E : za_E} (hl0 : l.stackTraces = false) (hL : L ≤ 1536) (C0 : lw_At p s m meth c bq L xs) (hK : za_K E s) (hZ : za_Z b s s.heap) (hAO : va_AO RX2 s) (hb0 : b ≤ s.heap.size) (hbA : ¬ za_A b bq) (hi : i + 3 ≤ L) (kk : zl_at p l e s m below meth c bq b E (i + 3))
    {ad : za_Ad} {S X Y : za_S} {ow : Int64} {dw : UInt64} {H : Heap} {locs : List Loc} {k n : Nat} {ls : Array Slot} (hG : za_G E b (ad, S, X, S, Y, ow, dw) H) (hS : va_S (za_A b) s.heap H locs) (hD : zs_D S X) (h6 : zs_6 S) (hY : zs_B Y) (hk : k ≤ 100 + 2 * i + zs_ce S) (hn : n ≤ 29000 + 14 * i + zs_sl S) (hl : lv_has ls 9 [(0, .ref bq), (1, .ref (ad 0 0)), (2, .ref (ad 14 0)), (3, .ref (ad 33 0)), (4, .ref (ad 34 0)), (5, .int (nI i))]) : W p l e room_1 s m #[Value.ref bq] below meth c H locs k n (lw_Z below #[Value.ref bq] s) (F0 m 1919 ls []) := by
  obtain ⟨hx, hb, hr, hml, hown, hts0, hX, hbl, hlocks, hgv⟩ := C0
  have hts : ∀ w ∈ wsL_law, w.before #[Value.ref bq] s = true := fun w h => hts0 w (wsL_law_in w h)
  have hce := zs_ce_le hD.1
  refine lv_aload_n hx hb dL_law_1919 rfl (lv_at hl 1 rfl) ?_
  refine lv_aload_n hx hb dL_law_1920 rfl (lv_at hl 0 rfl) ?_
  refine lv_iload hx hb dL_law_1921 (lv_at hl 5 rfl) ?_
  refine zb_iconst (n := 1) hx hb dL_law_1923 (by decide) ?_
  refine zb_iadd hx hb dL_law_1924 ?_
  refine va_sld hx hb hX hbl hbA hS (vp_in_nI (by omega) (by omega)) dL_law_1925 ?_
  refine lv_aload_n hx hb dL_law_1926 rfl (lv_at hl 3 rfl) ?_
  refine zc_LSi (As := [.ref (ad 0 0), .int (xs (nI (i + 1)).toNatClampNeg), .ref (ad 33 0)]) (rest := []) hK hZ hAO hb0 hG hS hx hb hml hown hts (c_L_stop l hl0 (xs (nI (i + 1)).toNatClampNeg) hD h6) (vx_cwSW 3 hts gL_law_L_stop rfl rfl rfl (by decide +kernel) ⟨Nat.le_of_ble_eq_true rfl, Nat.le_of_ble_eq_true rfl⟩) rfl hl rfl (Nat.le_of_ble_eq_true rfl) dL_law_1927 ⟨by show _ ≤ 603072; omega, by show _ ≤ 7207018; omega⟩ (fun r_1927 u_1927 H locs hp hG hS => ?_)
  obtain ⟨ad2, S2, X2, ow2, rfl, rfl, hsm, hD2, h62, hal⟩ := hp
  have hCb : zo_ks S (zs_ix (xs (nI (i + 1)).toNatClampNeg)) < 2 ^ 31 := by
    unfold zo_ks
    repeat' split
    all_goals decide
  rw [← hsm 0 (by omega), ← hsm 14 (by omega), ← hsm 33 (by omega), ← hsm 34 (by omega)] at hl
  refine lv_istore (lv' := [(6, .int (nI (zo_ks S (zs_ix (xs (nI (i + 1)).toNatClampNeg))))), (0, .ref bq), (1, .ref (ad2 0 0)), (2, .ref (ad2 14 0)), (3, .ref (ad2 33 0)), (4, .ref (ad2 34 0)), (5, .int (nI i))]) hx hb dL_law_1930 hl (by decide) rfl (fun ls hl => ?_)
  refine lv_aload_n hx hb dL_law_1932 rfl (lv_at hl 3 rfl) ?_
  refine lv_aload_n hx hb dL_law_1933 rfl (lv_at hl 1 rfl) ?_
  refine lv_iload hx hb dL_law_1934 (lv_at hl 6 rfl) ?_
  refine zb_iconst (n := 1) hx hb dL_law_1936 (by decide) ?_
  refine zb_iadd hx hb dL_law_1937 ?_
  refine va_sld hx hb hX hbl hbA hS (vp_in_nI (by omega) (by omega)) dL_law_1938 ?_
  refine zc_Vi (As := [.int (xs (nI (i + 1)).toNatClampNeg)]) (rest := []) hK hZ hb0 hG hS hx hb hml hown hts (c_X7_stop l (xs (nI (i + 1)).toNatClampNeg) (zw_D.M hD h6 hY)) (cwV 1 hts gL_law_X7_stop rfl rfl rfl (by decide +kernel) ⟨Nat.le_of_ble_eq_true rfl, Nat.le_of_ble_eq_true rfl⟩) (za_recv (q := (RX7, TX7, 25)) hK hG 14 0 ⟨by omega, rfl⟩ rfl rfl rfl) rfl hl rfl (Nat.le_of_ble_eq_true rfl) dL_law_1939 ⟨by show _ ≤ 603072; omega, by show _ ≤ 7207018; omega⟩ (fun r_1939 u_1939 H locs hp hG hS => ?_)
  obtain ⟨T2, Y2, rfl, hy, hmo⟩ := hp
  rcases hal with ⟨hc0, h1, h2⟩ | ⟨hc1, h1⟩
  · obtain ⟨-, h3, h4⟩ : zo_ks S (zs_ix (xs (nI (i + 1)).toNatClampNeg)) = 0 ∧ T2 = za_N S 8 (zs_ix (xs (nI (i + 1)).toNatClampNeg)) 0 1 ∧ r_1939 = nI (S.1 7 (zs_ix (xs (nI (i + 1)).toNatClampNeg)) 0) := by
      rcases hmo with h | ⟨h, -⟩
      · exact h
      · exact absurd hc0 h
    have hce2 : zs_ce S ≤ zs_ce (za_N S 8 (zs_ix (xs (nI (i + 1)).toNatClampNeg)) 0 1) ∧ zs_sl S ≤ zs_sl (za_N S 8 (zs_ix (xs (nI (i + 1)).toNatClampNeg)) 0 1) := zl_7 rfl
    subst h1
    subst h3
    subst h2
    subst h4
    refine lv_istore (lv' := [(7, .int (nI (S.1 7 (zs_ix (xs (nI (i + 1)).toNatClampNeg)) 0))), (6, .int (nI (zo_ks S (zs_ix (xs (nI (i + 1)).toNatClampNeg))))), (0, .ref bq), (1, .ref (ad2 0 0)), (2, .ref (ad2 14 0)), (3, .ref (ad2 33 0)), (4, .ref (ad2 34 0)), (5, .int (nI i))]) hx hb dL_law_1942 hl (by decide) rfl (fun ls hl => ?_)
    refine lv_aload_n hx hb dL_law_1944 rfl (lv_at hl 4 rfl) ?_
    refine zc_Vi (As := []) (rest := []) hK hZ hb0 hG hS hx hb hml hown hts (c_X7_thrown l ) (cwV 0 hts gL_law_X7_thrown rfl rfl rfl (by decide +kernel) ⟨Nat.le_of_ble_eq_true rfl, Nat.le_of_ble_eq_true rfl⟩) (za_recv (q := (RX7, TX7, 25)) hK hG 14 0 ⟨by omega, rfl⟩ rfl rfl rfl) rfl hl rfl (Nat.le_of_ble_eq_true rfl) dL_law_1945 ⟨by show _ ≤ 603072; omega, by show _ ≤ 7207018; omega⟩ (fun r_1945 u_1945 H locs hp hG hS => ?_)
    obtain ⟨rfl, rfl⟩ := hp
    refine lv_iload hx hb dL_law_1948 (lv_at hl 1 rfl) ?_
    refine lv_icmp_eq (tgt := 1955) hx hb dL_law_1950 (by decide) (fun c_1950 => ?_) (fun c_1950 => ?_)
    · refine lv_iload hx hb dL_law_1955 (lv_at hl 1 rfl) ?_
      refine zb_if_ne (x := zo_ks S (zs_ix (xs (nI (i + 1)).toNatClampNeg))) (tgt := 1972) hx hb (by omega) dL_law_1957 (by decide) (fun c_1957 => ?_) (fun c_1957 => ?_)
      · exact absurd hc0 c_1957
      · refine lv_aload_n hx hb dL_law_1960 rfl (lv_at hl 5 rfl) ?_
        refine zb_iconst (n := 0) hx hb dL_law_1961 (by decide) ?_
        refine zld_OL hx hb hK hG (by omega) rfl dL_law_1962 ?_
        refine lv_iload hx hb dL_law_1963 (lv_at hl 0 rfl) ?_
        refine lv_i2l hx hb dL_law_1965 rfl ?_
        refine W.lcmp hx hb dL_law_1966 ?_
        refine lv_if_eq (tgt := 1972) hx hb dL_law_1967 (by decide) (fun c_1967 => ?_) (fun c_1967 => ?_)
        · refine zb_goto (tgt := 2168) hx hb dL_law_1972 (by decide) ?_
          refine zb_iinc (n := 3) (k := 7) (lv' := [(5, .int (nI (i + 3))), (7, .int (nI (S.1 7 (zs_ix (xs (nI (i + 1)).toNatClampNeg)) 0))), (6, .int (nI (zo_ks S (zs_ix (xs (nI (i + 1)).toNatClampNeg))))), (0, .ref bq), (1, .ref (ad2 0 0)), (2, .ref (ad2 14 0)), (3, .ref (ad2 33 0)), (4, .ref (ad2 34 0))]) hx hb dL_law_2168 hl rfl (by decide) (by decide) rfl (fun ls hl => ?_)
          refine zb_goto (tgt := 28) hx hb dL_law_2171 (by decide) ?_
          have hcf := hce2
          exact kk _ (za_N S 8 (zs_ix (xs (nI (i + 1)).toNatClampNeg)) 0 1) _ _ _ _ _ _ _ _ _ hG hS hD2 h62 hy.2 (by omega) (by omega) (lv_sub hl [3, 4, 5, 6, 7, 0] rfl)
        · exact absurd (zl_self _) c_1967
    · exact absurd (by rw [hy.1]) c_1950
  · have h3 : T2 = S := by
      rcases hmo with ⟨h, -⟩ | ⟨-, h⟩
      · exact absurd h hc1
      · exact h
    obtain rfl : S = S2 := h1.symm
    obtain rfl : S = T2 := h3.symm
    refine lv_istore (lv' := [(7, .int r_1939), (6, .int (nI (zo_ks S (zs_ix (xs (nI (i + 1)).toNatClampNeg))))), (0, .ref bq), (1, .ref (ad2 0 0)), (2, .ref (ad2 14 0)), (3, .ref (ad2 33 0)), (4, .ref (ad2 34 0)), (5, .int (nI i))]) hx hb dL_law_1942 hl (by decide) rfl (fun ls hl => ?_)
    refine lv_aload_n hx hb dL_law_1944 rfl (lv_at hl 4 rfl) ?_
    refine zc_Vi (As := []) (rest := []) hK hZ hb0 hG hS hx hb hml hown hts (c_X7_thrown l ) (cwV 0 hts gL_law_X7_thrown rfl rfl rfl (by decide +kernel) ⟨Nat.le_of_ble_eq_true rfl, Nat.le_of_ble_eq_true rfl⟩) (za_recv (q := (RX7, TX7, 25)) hK hG 14 0 ⟨by omega, rfl⟩ rfl rfl rfl) rfl hl rfl (Nat.le_of_ble_eq_true rfl) dL_law_1945 ⟨by show _ ≤ 603072; omega, by show _ ≤ 7207018; omega⟩ (fun r_1945 u_1945 H locs hp hG hS => ?_)
    obtain ⟨rfl, rfl⟩ := hp
    refine lv_iload hx hb dL_law_1948 (lv_at hl 1 rfl) ?_
    refine lv_icmp_eq (tgt := 1955) hx hb dL_law_1950 (by decide) (fun c_1950 => ?_) (fun c_1950 => ?_)
    · refine lv_iload hx hb dL_law_1955 (lv_at hl 1 rfl) ?_
      refine zb_if_ne (x := zo_ks S (zs_ix (xs (nI (i + 1)).toNatClampNeg))) (tgt := 1972) hx hb (by omega) dL_law_1957 (by decide) (fun c_1957 => ?_) (fun c_1957 => ?_)
      · refine zb_goto (tgt := 2168) hx hb dL_law_1972 (by decide) ?_
        refine zb_iinc (n := 3) (k := 7) (lv' := [(5, .int (nI (i + 3))), (7, .int r_1939), (6, .int (nI (zo_ks S (zs_ix (xs (nI (i + 1)).toNatClampNeg))))), (0, .ref bq), (1, .ref (ad2 0 0)), (2, .ref (ad2 14 0)), (3, .ref (ad2 33 0)), (4, .ref (ad2 34 0))]) hx hb dL_law_2168 hl rfl (by decide) (by decide) rfl (fun ls hl => ?_)
        refine zb_goto (tgt := 28) hx hb dL_law_2171 (by decide) ?_
        exact kk _ S _ _ _ _ _ _ _ _ _ hG hS hD2 h62 hy.2 (by omega) (by omega) (lv_sub hl [3, 4, 5, 6, 7, 0] rfl)
      · exact absurd c_1957 hc1
    · exact absurd (by rw [hy.1]) c_1950

set_option maxRecDepth 100000 in
set_option maxHeartbeats 4000000 in
theorem lq_33 {p : Program} {l : Launch} {e : Env} {s : State} {m : MethodId} {below : List Frame} {meth : Method} {c : Code} {bq b L i : Nat} {xs : Nat → Int32} {E : za_E} (hl0 : l.stackTraces = false) (hL : L ≤ 1536) (C0 : lw_At p s m meth c bq L xs) (hK : za_K E s) (hZ : za_Z b s s.heap) (hAO : va_AO RX2 s) (hb0 : b ≤ s.heap.size) (hbA : ¬ za_A b bq) (hi : i + 3 ≤ L) (kk : zl_at p l e s m below meth c bq b E (i + 3))
    {ad : za_Ad} {S X Y : za_S} {ow : Int64} {dw : UInt64} {H : Heap} {locs : List Loc} {k n : Nat} {ls : Array Slot} (hG : za_G E b (ad, S, X, S, Y, ow, dw) H) (hS : va_S (za_A b) s.heap H locs) (hD : zs_D S X) (h6 : zs_6 S) (hY : zs_B Y) (hk : k ≤ 100 + 2 * i + zs_ce S) (hn : n ≤ 29000 + 14 * i + zs_sl S) (hl : lv_has ls 9 [(0, .ref bq), (1, .ref (ad 0 0)), (2, .ref (ad 14 0)), (3, .ref (ad 33 0)), (4, .ref (ad 34 0)), (5, .int (nI i))]) : W p l e room_1 s m #[Value.ref bq] below meth c H locs k n (lw_Z below #[Value.ref bq] s) (F0 m 1975 ls []) := by
  obtain ⟨hx, hb, hr, hml, hown, hts0, hX, hbl, hlocks, hgv⟩ := C0
  have hts : ∀ w ∈ wsL_law, w.before #[Value.ref bq] s = true := fun w h => hts0 w (wsL_law_in w h)
  have hce := zs_ce_le hD.1
  refine lv_aload_n hx hb dL_law_1975 rfl (lv_at hl 1 rfl) ?_
  refine lv_aload_n hx hb dL_law_1976 rfl (lv_at hl 0 rfl) ?_
  refine lv_iload hx hb dL_law_1977 (lv_at hl 5 rfl) ?_
  refine zb_iconst (n := 1) hx hb dL_law_1979 (by decide) ?_
  refine zb_iadd hx hb dL_law_1980 ?_
  refine va_sld hx hb hX hbl hbA hS (vp_in_nI (by omega) (by omega)) dL_law_1981 ?_
  refine lv_aload_n hx hb dL_law_1982 rfl (lv_at hl 3 rfl) ?_
  refine zc_LSi (As := [.ref (ad 0 0), .int (xs (nI (i + 1)).toNatClampNeg), .ref (ad 33 0)]) (rest := []) hK hZ hAO hb0 hG hS hx hb hml hown hts (c_L_stateOf l hl0 (xs (nI (i + 1)).toNatClampNeg) hD h6) (vx_cwSW 3 hts gL_law_L_stateOf rfl rfl rfl (by decide +kernel) ⟨Nat.le_of_ble_eq_true rfl, Nat.le_of_ble_eq_true rfl⟩) rfl hl rfl (Nat.le_of_ble_eq_true rfl) dL_law_1983 ⟨by show _ ≤ 603072; omega, by show _ ≤ 7207018; omega⟩ (fun r_1983 u_1983 H locs hp hG hS => ?_)
  obtain ⟨ad2, S2, X2, ow2, rfl, rfl, hsm, hD2, h62, hal⟩ := hp
  have hCb : zo_k S (zs_ix (xs (nI (i + 1)).toNatClampNeg)) < 2 ^ 31 := by
    unfold zo_k
    repeat' split
    all_goals decide
  rw [← hsm 0 (by omega), ← hsm 14 (by omega), ← hsm 33 (by omega), ← hsm 34 (by omega)] at hl
  refine lv_istore (lv' := [(6, .int (nI (zo_k S (zs_ix (xs (nI (i + 1)).toNatClampNeg))))), (0, .ref bq), (1, .ref (ad2 0 0)), (2, .ref (ad2 14 0)), (3, .ref (ad2 33 0)), (4, .ref (ad2 34 0)), (5, .int (nI i))]) hx hb dL_law_1986 hl (by decide) rfl (fun ls hl => ?_)
  refine lv_aload_n hx hb dL_law_1988 rfl (lv_at hl 3 rfl) ?_
  refine lv_aload_n hx hb dL_law_1989 rfl (lv_at hl 1 rfl) ?_
  refine lv_iload hx hb dL_law_1990 (lv_at hl 6 rfl) ?_
  refine zb_iconst (n := 1) hx hb dL_law_1992 (by decide) ?_
  refine zb_iadd hx hb dL_law_1993 ?_
  refine va_sld hx hb hX hbl hbA hS (vp_in_nI (by omega) (by omega)) dL_law_1994 ?_
  refine zc_Vi (As := [.int (xs (nI (i + 1)).toNatClampNeg)]) (rest := []) hK hZ hb0 hG hS hx hb hml hown hts (c_X7_stateOf l (xs (nI (i + 1)).toNatClampNeg) (zw_D.M hD h6 hY)) (cwV 1 hts gL_law_X7_stateOf rfl rfl rfl (by decide +kernel) ⟨Nat.le_of_ble_eq_true rfl, Nat.le_of_ble_eq_true rfl⟩) (za_recv (q := (RX7, TX7, 25)) hK hG 14 0 ⟨by omega, rfl⟩ rfl rfl rfl) rfl hl rfl (Nat.le_of_ble_eq_true rfl) dL_law_1995 ⟨by show _ ≤ 603072; omega, by show _ ≤ 7207018; omega⟩ (fun r_1995 u_1995 H locs hp hG hS => ?_)
  obtain ⟨T2, Y2, rfl, hy, hmo⟩ := hp
  rcases hal with ⟨hc0, h1, h2⟩ | ⟨hc1, h1⟩
  · obtain ⟨-, h3, h4⟩ : zo_k S (zs_ix (xs (nI (i + 1)).toNatClampNeg)) = 0 ∧ T2 = S ∧ r_1995 = nI (if S.1 8 (zs_ix (xs (nI (i + 1)).toNatClampNeg)) 0 = 0 then 114 else 115) := by
      rcases hmo with h | ⟨h, -⟩
      · exact h
      · exact absurd hc0 h
    have hce2 : zs_ce S ≤ zs_ce S ∧ zs_sl S ≤ zs_sl S := ⟨Nat.le_refl _, Nat.le_refl _⟩
    obtain rfl : S = S2 := h1.symm
    obtain rfl : S = T2 := h3.symm
    subst h2
    subst h4
    refine lv_istore (lv' := [(7, .int (nI (if S.1 8 (zs_ix (xs (nI (i + 1)).toNatClampNeg)) 0 = 0 then 114 else 115))), (6, .int (nI (zo_k S (zs_ix (xs (nI (i + 1)).toNatClampNeg))))), (0, .ref bq), (1, .ref (ad2 0 0)), (2, .ref (ad2 14 0)), (3, .ref (ad2 33 0)), (4, .ref (ad2 34 0)), (5, .int (nI i))]) hx hb dL_law_1998 hl (by decide) rfl (fun ls hl => ?_)
    refine lv_aload_n hx hb dL_law_2000 rfl (lv_at hl 4 rfl) ?_
    refine zc_Vi (As := []) (rest := []) hK hZ hb0 hG hS hx hb hml hown hts (c_X7_thrown l ) (cwV 0 hts gL_law_X7_thrown rfl rfl rfl (by decide +kernel) ⟨Nat.le_of_ble_eq_true rfl, Nat.le_of_ble_eq_true rfl⟩) (za_recv (q := (RX7, TX7, 25)) hK hG 14 0 ⟨by omega, rfl⟩ rfl rfl rfl) rfl hl rfl (Nat.le_of_ble_eq_true rfl) dL_law_2001 ⟨by show _ ≤ 603072; omega, by show _ ≤ 7207018; omega⟩ (fun r_2001 u_2001 H locs hp hG hS => ?_)
    obtain ⟨rfl, rfl⟩ := hp
    refine lv_iload hx hb dL_law_2004 (lv_at hl 1 rfl) ?_
    refine lv_icmp_eq (tgt := 2011) hx hb dL_law_2006 (by decide) (fun c_2006 => ?_) (fun c_2006 => ?_)
    · refine lv_iload hx hb dL_law_2011 (lv_at hl 1 rfl) ?_
      refine zb_if_ne (x := zo_k S (zs_ix (xs (nI (i + 1)).toNatClampNeg))) (tgt := 2028) hx hb (by omega) dL_law_2013 (by decide) (fun c_2013 => ?_) (fun c_2013 => ?_)
      · exact absurd hc0 c_2013
      · refine lv_aload_n hx hb dL_law_2016 rfl (lv_at hl 5 rfl) ?_
        refine zb_iconst (n := 0) hx hb dL_law_2017 (by decide) ?_
        refine zld_OL hx hb hK hG (by omega) rfl dL_law_2018 ?_
        refine lv_iload hx hb dL_law_2019 (lv_at hl 0 rfl) ?_
        refine lv_i2l hx hb dL_law_2021 rfl ?_
        refine W.lcmp hx hb dL_law_2022 ?_
        refine lv_if_eq (tgt := 2028) hx hb dL_law_2023 (by decide) (fun c_2023 => ?_) (fun c_2023 => ?_)
        · refine zb_goto (tgt := 2168) hx hb dL_law_2028 (by decide) ?_
          refine zb_iinc (n := 3) (k := 7) (lv' := [(5, .int (nI (i + 3))), (7, .int (nI (if S.1 8 (zs_ix (xs (nI (i + 1)).toNatClampNeg)) 0 = 0 then 114 else 115))), (6, .int (nI (zo_k S (zs_ix (xs (nI (i + 1)).toNatClampNeg))))), (0, .ref bq), (1, .ref (ad2 0 0)), (2, .ref (ad2 14 0)), (3, .ref (ad2 33 0)), (4, .ref (ad2 34 0))]) hx hb dL_law_2168 hl rfl (by decide) (by decide) rfl (fun ls hl => ?_)
          refine zb_goto (tgt := 28) hx hb dL_law_2171 (by decide) ?_
          have hcf := hce2
          exact kk _ S _ _ _ _ _ _ _ _ _ hG hS hD2 h62 hy.2 (by omega) (by omega) (lv_sub hl [3, 4, 5, 6, 7, 0] rfl)
        · exact absurd (zl_self _) c_2023
    · exact absurd (by rw [hy.1]) c_2006
  · have h3 : T2 = S := by
      rcases hmo with ⟨h, -⟩ | ⟨-, h⟩
      · exact absurd h hc1
      · exact h
    obtain rfl : S = S2 := h1.symm
    obtain rfl : S = T2 := h3.symm
    refine lv_istore (lv' := [(7, .int r_1995), (6, .int (nI (zo_k S (zs_ix (xs (nI (i + 1)).toNatClampNeg))))), (0, .ref bq), (1, .ref (ad2 0 0)), (2, .ref (ad2 14 0)), (3, .ref (ad2 33 0)), (4, .ref (ad2 34 0)), (5, .int (nI i))]) hx hb dL_law_1998 hl (by decide) rfl (fun ls hl => ?_)
    refine lv_aload_n hx hb dL_law_2000 rfl (lv_at hl 4 rfl) ?_
    refine zc_Vi (As := []) (rest := []) hK hZ hb0 hG hS hx hb hml hown hts (c_X7_thrown l ) (cwV 0 hts gL_law_X7_thrown rfl rfl rfl (by decide +kernel) ⟨Nat.le_of_ble_eq_true rfl, Nat.le_of_ble_eq_true rfl⟩) (za_recv (q := (RX7, TX7, 25)) hK hG 14 0 ⟨by omega, rfl⟩ rfl rfl rfl) rfl hl rfl (Nat.le_of_ble_eq_true rfl) dL_law_2001 ⟨by show _ ≤ 603072; omega, by show _ ≤ 7207018; omega⟩ (fun r_2001 u_2001 H locs hp hG hS => ?_)
    obtain ⟨rfl, rfl⟩ := hp
    refine lv_iload hx hb dL_law_2004 (lv_at hl 1 rfl) ?_
    refine lv_icmp_eq (tgt := 2011) hx hb dL_law_2006 (by decide) (fun c_2006 => ?_) (fun c_2006 => ?_)
    · refine lv_iload hx hb dL_law_2011 (lv_at hl 1 rfl) ?_
      refine zb_if_ne (x := zo_k S (zs_ix (xs (nI (i + 1)).toNatClampNeg))) (tgt := 2028) hx hb (by omega) dL_law_2013 (by decide) (fun c_2013 => ?_) (fun c_2013 => ?_)
      · refine zb_goto (tgt := 2168) hx hb dL_law_2028 (by decide) ?_
        refine zb_iinc (n := 3) (k := 7) (lv' := [(5, .int (nI (i + 3))), (7, .int r_1995), (6, .int (nI (zo_k S (zs_ix (xs (nI (i + 1)).toNatClampNeg))))), (0, .ref bq), (1, .ref (ad2 0 0)), (2, .ref (ad2 14 0)), (3, .ref (ad2 33 0)), (4, .ref (ad2 34 0))]) hx hb dL_law_2168 hl rfl (by decide) (by decide) rfl (fun ls hl => ?_)
        refine zb_goto (tgt := 28) hx hb dL_law_2171 (by decide) ?_
        exact kk _ S _ _ _ _ _ _ _ _ _ hG hS hD2 h62 hy.2 (by omega) (by omega) (lv_sub hl [3, 4, 5, 6, 7, 0] rfl)
      · exact absurd c_2013 hc1
    · exact absurd (by rw [hy.1]) c_2006

set_option maxRecDepth 100000 in
set_option maxHeartbeats 4000000 in
theorem lq_34 {p : Program} {l : Launch} {e : Env} {s : State} {m : MethodId} {below : List Frame} {meth : Method} {c : Code} {bq b L i : Nat} {xs : Nat → Int32} {E : za_E} (hl0 : l.stackTraces = false) (hL : L ≤ 1536) (C0 : lw_At p s m meth c bq L xs) (hK : za_K E s) (hZ : za_Z b s s.heap) (hAO : va_AO RX2 s) (hb0 : b ≤ s.heap.size) (hbA : ¬ za_A b bq) (hi : i + 3 ≤ L) (kk : zl_at p l e s m below meth c bq b E (i + 3))
    {ad : za_Ad} {S X Y : za_S} {ow : Int64} {dw : UInt64} {H : Heap} {locs : List Loc} {k n : Nat} {ls : Array Slot} (hG : za_G E b (ad, S, X, S, Y, ow, dw) H) (hS : va_S (za_A b) s.heap H locs) (hD : zs_D S X) (h6 : zs_6 S) (hY : zs_B Y) (hk : k ≤ 100 + 2 * i + zs_ce S) (hn : n ≤ 29000 + 14 * i + zs_sl S) (hl : lv_has ls 9 [(0, .ref bq), (1, .ref (ad 0 0)), (2, .ref (ad 14 0)), (3, .ref (ad 33 0)), (4, .ref (ad 34 0)), (5, .int (nI i))]) : W p l e room_1 s m #[Value.ref bq] below meth c H locs k n (lw_Z below #[Value.ref bq] s) (F0 m 2031 ls []) := by
  obtain ⟨hx, hb, hr, hml, hown, hts0, hX, hbl, hlocks, hgv⟩ := C0
  have hts : ∀ w ∈ wsL_law, w.before #[Value.ref bq] s = true := fun w h => hts0 w (wsL_law_in w h)
  have hce := zs_ce_le hD.1
  refine lv_aload_n hx hb dL_law_2031 rfl (lv_at hl 1 rfl) ?_
  refine lv_aload_n hx hb dL_law_2032 rfl (lv_at hl 0 rfl) ?_
  refine lv_iload hx hb dL_law_2033 (lv_at hl 5 rfl) ?_
  refine zb_iconst (n := 1) hx hb dL_law_2035 (by decide) ?_
  refine zb_iadd hx hb dL_law_2036 ?_
  refine va_sld hx hb hX hbl hbA hS (vp_in_nI (by omega) (by omega)) dL_law_2037 ?_
  refine lv_aload_n hx hb dL_law_2038 rfl (lv_at hl 3 rfl) ?_
  refine zc_LSi (As := [.ref (ad 0 0), .int (xs (nI (i + 1)).toNatClampNeg), .ref (ad 33 0)]) (rest := []) hK hZ hAO hb0 hG hS hx hb hml hown hts (c_L_follows l hl0 (xs (nI (i + 1)).toNatClampNeg) hD h6) (vx_cwSW 3 hts gL_law_L_follows rfl rfl rfl (by decide +kernel) ⟨Nat.le_of_ble_eq_true rfl, Nat.le_of_ble_eq_true rfl⟩) rfl hl rfl (Nat.le_of_ble_eq_true rfl) dL_law_2039 ⟨by show _ ≤ 603072; omega, by show _ ≤ 7207018; omega⟩ (fun r_2039 u_2039 H locs hp hG hS => ?_)
  obtain ⟨ad2, S2, X2, ow2, rfl, rfl, hsm, hD2, h62, hal⟩ := hp
  have hCb : zo_ks S (zs_ix (xs (nI (i + 1)).toNatClampNeg)) < 2 ^ 31 := by
    unfold zo_ks
    repeat' split
    all_goals decide
  rw [← hsm 0 (by omega), ← hsm 14 (by omega), ← hsm 33 (by omega), ← hsm 34 (by omega)] at hl
  refine lv_istore (lv' := [(6, .int (nI (zo_ks S (zs_ix (xs (nI (i + 1)).toNatClampNeg))))), (0, .ref bq), (1, .ref (ad2 0 0)), (2, .ref (ad2 14 0)), (3, .ref (ad2 33 0)), (4, .ref (ad2 34 0)), (5, .int (nI i))]) hx hb dL_law_2042 hl (by decide) rfl (fun ls hl => ?_)
  refine lv_aload_n hx hb dL_law_2044 rfl (lv_at hl 3 rfl) ?_
  refine lv_aload_n hx hb dL_law_2045 rfl (lv_at hl 1 rfl) ?_
  refine lv_iload hx hb dL_law_2046 (lv_at hl 6 rfl) ?_
  refine zb_iconst (n := 1) hx hb dL_law_2048 (by decide) ?_
  refine zb_iadd hx hb dL_law_2049 ?_
  refine va_sld hx hb hX hbl hbA hS (vp_in_nI (by omega) (by omega)) dL_law_2050 ?_
  refine zc_Vi (As := [.int (xs (nI (i + 1)).toNatClampNeg)]) (rest := []) hK hZ hb0 hG hS hx hb hml hown hts (c_X7_follows l (xs (nI (i + 1)).toNatClampNeg) (zw_D.M hD h6 hY)) (cwV 1 hts gL_law_X7_follows rfl rfl rfl (by decide +kernel) ⟨Nat.le_of_ble_eq_true rfl, Nat.le_of_ble_eq_true rfl⟩) (za_recv (q := (RX7, TX7, 25)) hK hG 14 0 ⟨by omega, rfl⟩ rfl rfl rfl) rfl hl rfl (Nat.le_of_ble_eq_true rfl) dL_law_2051 ⟨by show _ ≤ 603072; omega, by show _ ≤ 7207018; omega⟩ (fun r_2051 u_2051 H locs hp hG hS => ?_)
  obtain ⟨T2, Y2, rfl, hy, hmo⟩ := hp
  rcases hal with ⟨hc0, h1, h2⟩ | ⟨hc1, h1⟩
  · obtain ⟨-, h3, h4⟩ : zo_ks S (zs_ix (xs (nI (i + 1)).toNatClampNeg)) = 0 ∧ T2 = S ∧ r_2051 = nI (S.1 9 (zs_ix (xs (nI (i + 1)).toNatClampNeg)) 0) := by
      rcases hmo with h | ⟨h, -⟩
      · exact h
      · exact absurd hc0 h
    have hce2 : zs_ce S ≤ zs_ce S ∧ zs_sl S ≤ zs_sl S := ⟨Nat.le_refl _, Nat.le_refl _⟩
    obtain rfl : S = S2 := h1.symm
    obtain rfl : S = T2 := h3.symm
    subst h2
    subst h4
    refine lv_istore (lv' := [(7, .int (nI (S.1 9 (zs_ix (xs (nI (i + 1)).toNatClampNeg)) 0))), (6, .int (nI (zo_ks S (zs_ix (xs (nI (i + 1)).toNatClampNeg))))), (0, .ref bq), (1, .ref (ad2 0 0)), (2, .ref (ad2 14 0)), (3, .ref (ad2 33 0)), (4, .ref (ad2 34 0)), (5, .int (nI i))]) hx hb dL_law_2054 hl (by decide) rfl (fun ls hl => ?_)
    refine lv_aload_n hx hb dL_law_2056 rfl (lv_at hl 4 rfl) ?_
    refine zc_Vi (As := []) (rest := []) hK hZ hb0 hG hS hx hb hml hown hts (c_X7_thrown l ) (cwV 0 hts gL_law_X7_thrown rfl rfl rfl (by decide +kernel) ⟨Nat.le_of_ble_eq_true rfl, Nat.le_of_ble_eq_true rfl⟩) (za_recv (q := (RX7, TX7, 25)) hK hG 14 0 ⟨by omega, rfl⟩ rfl rfl rfl) rfl hl rfl (Nat.le_of_ble_eq_true rfl) dL_law_2057 ⟨by show _ ≤ 603072; omega, by show _ ≤ 7207018; omega⟩ (fun r_2057 u_2057 H locs hp hG hS => ?_)
    obtain ⟨rfl, rfl⟩ := hp
    refine lv_iload hx hb dL_law_2060 (lv_at hl 1 rfl) ?_
    refine lv_icmp_eq (tgt := 2067) hx hb dL_law_2062 (by decide) (fun c_2062 => ?_) (fun c_2062 => ?_)
    · refine lv_iload hx hb dL_law_2067 (lv_at hl 1 rfl) ?_
      refine zb_if_ne (x := zo_ks S (zs_ix (xs (nI (i + 1)).toNatClampNeg))) (tgt := 2084) hx hb (by omega) dL_law_2069 (by decide) (fun c_2069 => ?_) (fun c_2069 => ?_)
      · exact absurd hc0 c_2069
      · refine lv_aload_n hx hb dL_law_2072 rfl (lv_at hl 5 rfl) ?_
        refine zb_iconst (n := 0) hx hb dL_law_2073 (by decide) ?_
        refine zld_OL hx hb hK hG (by omega) rfl dL_law_2074 ?_
        refine lv_iload hx hb dL_law_2075 (lv_at hl 0 rfl) ?_
        refine lv_i2l hx hb dL_law_2077 rfl ?_
        refine W.lcmp hx hb dL_law_2078 ?_
        refine lv_if_eq (tgt := 2084) hx hb dL_law_2079 (by decide) (fun c_2079 => ?_) (fun c_2079 => ?_)
        · refine zb_goto (tgt := 2168) hx hb dL_law_2084 (by decide) ?_
          refine zb_iinc (n := 3) (k := 7) (lv' := [(5, .int (nI (i + 3))), (7, .int (nI (S.1 9 (zs_ix (xs (nI (i + 1)).toNatClampNeg)) 0))), (6, .int (nI (zo_ks S (zs_ix (xs (nI (i + 1)).toNatClampNeg))))), (0, .ref bq), (1, .ref (ad2 0 0)), (2, .ref (ad2 14 0)), (3, .ref (ad2 33 0)), (4, .ref (ad2 34 0))]) hx hb dL_law_2168 hl rfl (by decide) (by decide) rfl (fun ls hl => ?_)
          refine zb_goto (tgt := 28) hx hb dL_law_2171 (by decide) ?_
          have hcf := hce2
          exact kk _ S _ _ _ _ _ _ _ _ _ hG hS hD2 h62 hy.2 (by omega) (by omega) (lv_sub hl [3, 4, 5, 6, 7, 0] rfl)
        · exact absurd (zl_self _) c_2079
    · exact absurd (by rw [hy.1]) c_2062
  · have h3 : T2 = S := by
      rcases hmo with ⟨h, -⟩ | ⟨-, h⟩
      · exact absurd h hc1
      · exact h
    obtain rfl : S = S2 := h1.symm
    obtain rfl : S = T2 := h3.symm
    refine lv_istore (lv' := [(7, .int r_2051), (6, .int (nI (zo_ks S (zs_ix (xs (nI (i + 1)).toNatClampNeg))))), (0, .ref bq), (1, .ref (ad2 0 0)), (2, .ref (ad2 14 0)), (3, .ref (ad2 33 0)), (4, .ref (ad2 34 0)), (5, .int (nI i))]) hx hb dL_law_2054 hl (by decide) rfl (fun ls hl => ?_)
    refine lv_aload_n hx hb dL_law_2056 rfl (lv_at hl 4 rfl) ?_
    refine zc_Vi (As := []) (rest := []) hK hZ hb0 hG hS hx hb hml hown hts (c_X7_thrown l ) (cwV 0 hts gL_law_X7_thrown rfl rfl rfl (by decide +kernel) ⟨Nat.le_of_ble_eq_true rfl, Nat.le_of_ble_eq_true rfl⟩) (za_recv (q := (RX7, TX7, 25)) hK hG 14 0 ⟨by omega, rfl⟩ rfl rfl rfl) rfl hl rfl (Nat.le_of_ble_eq_true rfl) dL_law_2057 ⟨by show _ ≤ 603072; omega, by show _ ≤ 7207018; omega⟩ (fun r_2057 u_2057 H locs hp hG hS => ?_)
    obtain ⟨rfl, rfl⟩ := hp
    refine lv_iload hx hb dL_law_2060 (lv_at hl 1 rfl) ?_
    refine lv_icmp_eq (tgt := 2067) hx hb dL_law_2062 (by decide) (fun c_2062 => ?_) (fun c_2062 => ?_)
    · refine lv_iload hx hb dL_law_2067 (lv_at hl 1 rfl) ?_
      refine zb_if_ne (x := zo_ks S (zs_ix (xs (nI (i + 1)).toNatClampNeg))) (tgt := 2084) hx hb (by omega) dL_law_2069 (by decide) (fun c_2069 => ?_) (fun c_2069 => ?_)
      · refine zb_goto (tgt := 2168) hx hb dL_law_2084 (by decide) ?_
        refine zb_iinc (n := 3) (k := 7) (lv' := [(5, .int (nI (i + 3))), (7, .int r_2051), (6, .int (nI (zo_ks S (zs_ix (xs (nI (i + 1)).toNatClampNeg))))), (0, .ref bq), (1, .ref (ad2 0 0)), (2, .ref (ad2 14 0)), (3, .ref (ad2 33 0)), (4, .ref (ad2 34 0))]) hx hb dL_law_2168 hl rfl (by decide) (by decide) rfl (fun ls hl => ?_)
        refine zb_goto (tgt := 28) hx hb dL_law_2171 (by decide) ?_
        exact kk _ S _ _ _ _ _ _ _ _ _ hG hS hD2 h62 hy.2 (by omega) (by omega) (lv_sub hl [3, 4, 5, 6, 7, 0] rfl)
      · exact absurd c_2069 hc1
    · exact absurd (by rw [hy.1]) c_2062

set_option maxRecDepth 100000 in
set_option maxHeartbeats 4000000 in
theorem lq_35 {p : Program} {l : Launch} {e : Env} {s : State} {m : MethodId} {below : List Frame} {meth : Method} {c : Code} {bq b L i : Nat} {xs : Nat → Int32} {E : za_E} (hl0 : l.stackTraces = false) (hL : L ≤ 1536) (C0 : lw_At p s m meth c bq L xs) (hK : za_K E s) (hZ : za_Z b s s.heap) (hAO : va_AO RX2 s) (hb0 : b ≤ s.heap.size) (hbA : ¬ za_A b bq) (hi : i + 3 ≤ L) (kk : zl_at p l e s m below meth c bq b E (i + 3))
    {ad : za_Ad} {S X Y : za_S} {ow : Int64} {dw : UInt64} {H : Heap} {locs : List Loc} {k n : Nat} {ls : Array Slot} (hG : za_G E b (ad, S, X, S, Y, ow, dw) H) (hS : va_S (za_A b) s.heap H locs) (hD : zs_D S X) (h6 : zs_6 S) (hY : zs_B Y) (hk : k ≤ 100 + 2 * i + zs_ce S) (hn : n ≤ 29000 + 14 * i + zs_sl S) (hl : lv_has ls 9 [(0, .ref bq), (1, .ref (ad 0 0)), (2, .ref (ad 14 0)), (3, .ref (ad 33 0)), (4, .ref (ad 34 0)), (5, .int (nI i))]) : W p l e room_1 s m #[Value.ref bq] below meth c H locs k n (lw_Z below #[Value.ref bq] s) (F0 m 2087 ls []) := by
  obtain ⟨hx, hb, hr, hml, hown, hts0, hX, hbl, hlocks, hgv⟩ := C0
  have hts : ∀ w ∈ wsL_law, w.before #[Value.ref bq] s = true := fun w h => hts0 w (wsL_law_in w h)
  have hce := zs_ce_le hD.1
  refine lv_aload_n hx hb dL_law_2087 rfl (lv_at hl 1 rfl) ?_
  refine lv_aload_n hx hb dL_law_2088 rfl (lv_at hl 0 rfl) ?_
  refine lv_iload hx hb dL_law_2089 (lv_at hl 5 rfl) ?_
  refine zb_iconst (n := 1) hx hb dL_law_2091 (by decide) ?_
  refine zb_iadd hx hb dL_law_2092 ?_
  refine va_sld hx hb hX hbl hbA hS (vp_in_nI (by omega) (by omega)) dL_law_2093 ?_
  refine lv_aload_n hx hb dL_law_2094 rfl (lv_at hl 0 rfl) ?_
  refine lv_iload hx hb dL_law_2095 (lv_at hl 5 rfl) ?_
  refine zb_iconst (n := 2) hx hb dL_law_2097 (by decide) ?_
  refine zb_iadd hx hb dL_law_2098 ?_
  refine va_sld hx hb hX hbl hbA hS (vp_in_nI (by omega) (by omega)) dL_law_2099 ?_
  refine lv_aload_n hx hb dL_law_2100 rfl (lv_at hl 3 rfl) ?_
  refine zc_LSi (As := [.ref (ad 0 0), .int (xs (nI (i + 1)).toNatClampNeg), .int (xs (nI (i + 2)).toNatClampNeg), .ref (ad 33 0)]) (rest := []) hK hZ hAO hb0 hG hS hx hb hml hown hts (c_L_noteAt l hl0 (xs (nI (i + 1)).toNatClampNeg) (xs (nI (i + 2)).toNatClampNeg) hD h6) (vx_cwSW 4 hts gL_law_L_noteAt rfl rfl rfl (by decide +kernel) ⟨Nat.le_of_ble_eq_true rfl, Nat.le_of_ble_eq_true rfl⟩) rfl hl rfl (Nat.le_of_ble_eq_true rfl) dL_law_2101 ⟨by show _ ≤ 603072; omega, by show _ ≤ 7207018; omega⟩ (fun r_2101 u_2101 H locs hp hG hS => ?_)
  obtain ⟨ad2, S2, X2, ow2, rfl, rfl, hsm, hD2, h62, hal⟩ := hp
  have hCb : zo_kn S (zs_ix (xs (nI (i + 1)).toNatClampNeg)) (zs_ix (xs (nI (i + 2)).toNatClampNeg)) < 2 ^ 31 := by
    unfold zo_kn
    repeat' split
    all_goals decide
  rw [← hsm 0 (by omega), ← hsm 14 (by omega), ← hsm 33 (by omega), ← hsm 34 (by omega)] at hl
  refine lv_istore (lv' := [(6, .int (nI (zo_kn S (zs_ix (xs (nI (i + 1)).toNatClampNeg)) (zs_ix (xs (nI (i + 2)).toNatClampNeg))))), (0, .ref bq), (1, .ref (ad2 0 0)), (2, .ref (ad2 14 0)), (3, .ref (ad2 33 0)), (4, .ref (ad2 34 0)), (5, .int (nI i))]) hx hb dL_law_2104 hl (by decide) rfl (fun ls hl => ?_)
  refine lv_aload_n hx hb dL_law_2106 rfl (lv_at hl 3 rfl) ?_
  refine lv_aload_n hx hb dL_law_2107 rfl (lv_at hl 1 rfl) ?_
  refine lv_iload hx hb dL_law_2108 (lv_at hl 6 rfl) ?_
  refine zb_iconst (n := 1) hx hb dL_law_2110 (by decide) ?_
  refine zb_iadd hx hb dL_law_2111 ?_
  refine va_sld hx hb hX hbl hbA hS (vp_in_nI (by omega) (by omega)) dL_law_2112 ?_
  refine lv_aload_n hx hb dL_law_2113 rfl (lv_at hl 1 rfl) ?_
  refine lv_iload hx hb dL_law_2114 (lv_at hl 6 rfl) ?_
  refine zb_iconst (n := 2) hx hb dL_law_2116 (by decide) ?_
  refine zb_iadd hx hb dL_law_2117 ?_
  refine va_sld hx hb hX hbl hbA hS (vp_in_nI (by omega) (by omega)) dL_law_2118 ?_
  refine zc_Vi (As := [.int (xs (nI (i + 1)).toNatClampNeg), .int (xs (nI (i + 2)).toNatClampNeg)]) (rest := []) hK hZ hb0 hG hS hx hb hml hown hts (c_X7_noteAt l (xs (nI (i + 1)).toNatClampNeg) (xs (nI (i + 2)).toNatClampNeg) (zw_D.M hD h6 hY)) (cwV 2 hts gL_law_X7_noteAt rfl rfl rfl (by decide +kernel) ⟨Nat.le_of_ble_eq_true rfl, Nat.le_of_ble_eq_true rfl⟩) (za_recv (q := (RX7, TX7, 25)) hK hG 14 0 ⟨by omega, rfl⟩ rfl rfl rfl) rfl hl rfl (Nat.le_of_ble_eq_true rfl) dL_law_2119 ⟨by show _ ≤ 603072; omega, by show _ ≤ 7207018; omega⟩ (fun r_2119 u_2119 H locs hp hG hS => ?_)
  obtain ⟨T2, Y2, rfl, hy, hmo⟩ := hp
  rcases hal with ⟨hc0, h1, h2⟩ | ⟨hc1, h1⟩
  · obtain ⟨-, h3, h4⟩ : zo_kn S (zs_ix (xs (nI (i + 1)).toNatClampNeg)) (zs_ix (xs (nI (i + 2)).toNatClampNeg)) = 0 ∧ T2 = S ∧ r_2119 = za_enc (S.2 5 (zs_ix (xs (nI (i + 1)).toNatClampNeg)) (zs_ix (xs (nI (i + 2)).toNatClampNeg))) := by
      rcases hmo with h | ⟨h, -⟩
      · exact h
      · exact absurd hc0 h
    have hce2 : zs_ce S ≤ zs_ce S ∧ zs_sl S ≤ zs_sl S := ⟨Nat.le_refl _, Nat.le_refl _⟩
    obtain rfl : S = S2 := h1.symm
    obtain rfl : S = T2 := h3.symm
    subst h2
    subst h4
    refine lv_istore (lv' := [(7, .int (za_enc (S.2 5 (zs_ix (xs (nI (i + 1)).toNatClampNeg)) (zs_ix (xs (nI (i + 2)).toNatClampNeg))))), (6, .int (nI (zo_kn S (zs_ix (xs (nI (i + 1)).toNatClampNeg)) (zs_ix (xs (nI (i + 2)).toNatClampNeg))))), (0, .ref bq), (1, .ref (ad2 0 0)), (2, .ref (ad2 14 0)), (3, .ref (ad2 33 0)), (4, .ref (ad2 34 0)), (5, .int (nI i))]) hx hb dL_law_2122 hl (by decide) rfl (fun ls hl => ?_)
    refine lv_aload_n hx hb dL_law_2124 rfl (lv_at hl 4 rfl) ?_
    refine zc_Vi (As := []) (rest := []) hK hZ hb0 hG hS hx hb hml hown hts (c_X7_thrown l ) (cwV 0 hts gL_law_X7_thrown rfl rfl rfl (by decide +kernel) ⟨Nat.le_of_ble_eq_true rfl, Nat.le_of_ble_eq_true rfl⟩) (za_recv (q := (RX7, TX7, 25)) hK hG 14 0 ⟨by omega, rfl⟩ rfl rfl rfl) rfl hl rfl (Nat.le_of_ble_eq_true rfl) dL_law_2125 ⟨by show _ ≤ 603072; omega, by show _ ≤ 7207018; omega⟩ (fun r_2125 u_2125 H locs hp hG hS => ?_)
    obtain ⟨rfl, rfl⟩ := hp
    refine lv_iload hx hb dL_law_2128 (lv_at hl 1 rfl) ?_
    refine lv_icmp_eq (tgt := 2135) hx hb dL_law_2130 (by decide) (fun c_2130 => ?_) (fun c_2130 => ?_)
    · refine lv_iload hx hb dL_law_2135 (lv_at hl 1 rfl) ?_
      refine zb_if_ne (x := zo_kn S (zs_ix (xs (nI (i + 1)).toNatClampNeg)) (zs_ix (xs (nI (i + 2)).toNatClampNeg))) (tgt := 2152) hx hb (by omega) dL_law_2137 (by decide) (fun c_2137 => ?_) (fun c_2137 => ?_)
      · exact absurd hc0 c_2137
      · refine lv_aload_n hx hb dL_law_2140 rfl (lv_at hl 5 rfl) ?_
        refine zb_iconst (n := 0) hx hb dL_law_2141 (by decide) ?_
        refine zld_OL hx hb hK hG (by omega) rfl dL_law_2142 ?_
        refine lv_iload hx hb dL_law_2143 (lv_at hl 0 rfl) ?_
        refine lv_i2l hx hb dL_law_2145 rfl ?_
        refine W.lcmp hx hb dL_law_2146 ?_
        refine lv_if_eq (tgt := 2152) hx hb dL_law_2147 (by decide) (fun c_2147 => ?_) (fun c_2147 => ?_)
        · refine zb_goto (tgt := 2168) hx hb dL_law_2152 (by decide) ?_
          refine zb_iinc (n := 3) (k := 7) (lv' := [(5, .int (nI (i + 3))), (7, .int (za_enc (S.2 5 (zs_ix (xs (nI (i + 1)).toNatClampNeg)) (zs_ix (xs (nI (i + 2)).toNatClampNeg))))), (6, .int (nI (zo_kn S (zs_ix (xs (nI (i + 1)).toNatClampNeg)) (zs_ix (xs (nI (i + 2)).toNatClampNeg))))), (0, .ref bq), (1, .ref (ad2 0 0)), (2, .ref (ad2 14 0)), (3, .ref (ad2 33 0)), (4, .ref (ad2 34 0))]) hx hb dL_law_2168 hl rfl (by decide) (by decide) rfl (fun ls hl => ?_)
          refine zb_goto (tgt := 28) hx hb dL_law_2171 (by decide) ?_
          have hcf := hce2
          exact kk _ S _ _ _ _ _ _ _ _ _ hG hS hD2 h62 hy.2 (by omega) (by omega) (lv_sub hl [3, 4, 5, 6, 7, 0] rfl)
        · exact absurd (zl_self _) c_2147
    · exact absurd (by rw [hy.1]) c_2130
  · have h3 : T2 = S := by
      rcases hmo with ⟨h, -⟩ | ⟨-, h⟩
      · exact absurd h hc1
      · exact h
    obtain rfl : S = S2 := h1.symm
    obtain rfl : S = T2 := h3.symm
    refine lv_istore (lv' := [(7, .int r_2119), (6, .int (nI (zo_kn S (zs_ix (xs (nI (i + 1)).toNatClampNeg)) (zs_ix (xs (nI (i + 2)).toNatClampNeg))))), (0, .ref bq), (1, .ref (ad2 0 0)), (2, .ref (ad2 14 0)), (3, .ref (ad2 33 0)), (4, .ref (ad2 34 0)), (5, .int (nI i))]) hx hb dL_law_2122 hl (by decide) rfl (fun ls hl => ?_)
    refine lv_aload_n hx hb dL_law_2124 rfl (lv_at hl 4 rfl) ?_
    refine zc_Vi (As := []) (rest := []) hK hZ hb0 hG hS hx hb hml hown hts (c_X7_thrown l ) (cwV 0 hts gL_law_X7_thrown rfl rfl rfl (by decide +kernel) ⟨Nat.le_of_ble_eq_true rfl, Nat.le_of_ble_eq_true rfl⟩) (za_recv (q := (RX7, TX7, 25)) hK hG 14 0 ⟨by omega, rfl⟩ rfl rfl rfl) rfl hl rfl (Nat.le_of_ble_eq_true rfl) dL_law_2125 ⟨by show _ ≤ 603072; omega, by show _ ≤ 7207018; omega⟩ (fun r_2125 u_2125 H locs hp hG hS => ?_)
    obtain ⟨rfl, rfl⟩ := hp
    refine lv_iload hx hb dL_law_2128 (lv_at hl 1 rfl) ?_
    refine lv_icmp_eq (tgt := 2135) hx hb dL_law_2130 (by decide) (fun c_2130 => ?_) (fun c_2130 => ?_)
    · refine lv_iload hx hb dL_law_2135 (lv_at hl 1 rfl) ?_
      refine zb_if_ne (x := zo_kn S (zs_ix (xs (nI (i + 1)).toNatClampNeg)) (zs_ix (xs (nI (i + 2)).toNatClampNeg))) (tgt := 2152) hx hb (by omega) dL_law_2137 (by decide) (fun c_2137 => ?_) (fun c_2137 => ?_)
      · refine zb_goto (tgt := 2168) hx hb dL_law_2152 (by decide) ?_
        refine zb_iinc (n := 3) (k := 7) (lv' := [(5, .int (nI (i + 3))), (7, .int r_2119), (6, .int (nI (zo_kn S (zs_ix (xs (nI (i + 1)).toNatClampNeg)) (zs_ix (xs (nI (i + 2)).toNatClampNeg))))), (0, .ref bq), (1, .ref (ad2 0 0)), (2, .ref (ad2 14 0)), (3, .ref (ad2 33 0)), (4, .ref (ad2 34 0))]) hx hb dL_law_2168 hl rfl (by decide) (by decide) rfl (fun ls hl => ?_)
        refine zb_goto (tgt := 28) hx hb dL_law_2171 (by decide) ?_
        exact kk _ S _ _ _ _ _ _ _ _ _ hG hS hD2 h62 hy.2 (by omega) (by omega) (lv_sub hl [3, 4, 5, 6, 7, 0] rfl)
      · exact absurd c_2137 hc1
    · exact absurd (by rw [hy.1]) c_2130

set_option maxRecDepth 100000 in
set_option maxHeartbeats 4000000 in
theorem lq_36 {p : Program} {l : Launch} {e : Env} {s : State} {m : MethodId} {below : List Frame} {meth : Method} {c : Code} {bq b L i : Nat} {xs : Nat → Int32} {E : za_E} (hl0 : l.stackTraces = false) (hL : L ≤ 1536) (C0 : lw_At p s m meth c bq L xs) (hK : za_K E s) (hZ : za_Z b s s.heap) (hAO : va_AO RX2 s) (hb0 : b ≤ s.heap.size) (hbA : ¬ za_A b bq) (hi : i + 3 ≤ L) (kk : zl_at p l e s m below meth c bq b E (i + 3))
    {ad : za_Ad} {S X Y : za_S} {ow : Int64} {dw : UInt64} {H : Heap} {locs : List Loc} {k n : Nat} {ls : Array Slot} (hG : za_G E b (ad, S, X, S, Y, ow, dw) H) (hS : va_S (za_A b) s.heap H locs) (hD : zs_D S X) (h6 : zs_6 S) (hY : zs_B Y) (hk : k ≤ 100 + 2 * i + zs_ce S) (hn : n ≤ 29000 + 14 * i + zs_sl S) (hl : lv_has ls 9 [(0, .ref bq), (1, .ref (ad 0 0)), (2, .ref (ad 14 0)), (3, .ref (ad 33 0)), (4, .ref (ad 34 0)), (5, .int (nI i))]) : W p l e room_1 s m #[Value.ref bq] below meth c H locs k n (lw_Z below #[Value.ref bq] s) (F0 m 2155 ls []) := by
  obtain ⟨hx, hb, hr, hml, hown, hts0, hX, hbl, hlocks, hgv⟩ := C0
  have hts : ∀ w ∈ wsL_law, w.before #[Value.ref bq] s = true := fun w h => hts0 w (wsL_law_in w h)
  have hce := zs_ce_le hD.1
  refine lv_aload_n hx hb dL_law_2155 rfl (lv_at hl 1 rfl) ?_
  refine zc_Vi (As := []) (rest := []) hK hZ hb0 hG hS hx hb hml hown hts (c_X6_isApart l hD.C) (cwV 0 hts gL_law_X6_isApart rfl rfl rfl (by decide +kernel) ⟨Nat.le_of_ble_eq_true rfl, Nat.le_of_ble_eq_true rfl⟩) (za_recv (q := (RX6, TX6, 11)) hK hG 0 0 ⟨by omega, rfl⟩ rfl rfl rfl) rfl hl rfl (Nat.le_of_ble_eq_true rfl) dL_law_2156 ⟨by show _ ≤ 603072; omega, by show _ ≤ 7207018; omega⟩ (fun r_2156 u_2156 H locs hp hG hS => ?_)
  obtain ⟨rfl, X2, rfl, f1, f2⟩ := hp
  have hD2 := zw_fr hD f1 f2
  refine lv_aload_n hx hb dL_law_2159 rfl (lv_at hl 2 rfl) ?_
  refine zc_Vi (As := []) (rest := [.int (nI 1)]) hK hZ hb0 hG hS hx hb hml hown hts (c_X7_isApart l (zw_D.M hD2 h6 hY)) (cwV 0 hts gL_law_X7_isApart rfl rfl rfl (by decide +kernel) ⟨Nat.le_of_ble_eq_true rfl, Nat.le_of_ble_eq_true rfl⟩) (za_recv (q := (RX7, TX7, 25)) hK hG 14 0 ⟨by omega, rfl⟩ rfl rfl rfl) rfl hl rfl (Nat.le_of_ble_eq_true rfl) dL_law_2160 ⟨by show _ ≤ 603072; omega, by show _ ≤ 7207018; omega⟩ (fun r_2160 u_2160 H locs hp hG hS => ?_)
  obtain ⟨T2, Y2, rfl, hy, hmo⟩ := hp
  obtain ⟨h1, h2⟩ : T2 = S ∧ r_2160 = nI 1 := by
    rcases hmo with h | ⟨h, -⟩
    · exact h.2
    · exact absurd rfl h
  obtain rfl : S = T2 := h1.symm
  subst h2
  refine lv_icmp_eq (tgt := 2168) hx hb dL_law_2163 (by decide) (fun c_2163 => ?_) (fun c_2163 => ?_)
  · refine zb_iinc (n := 3) (k := 5) (lv' := [(5, .int (nI (i + 3))), (0, .ref bq), (1, .ref (ad 0 0)), (2, .ref (ad 14 0)), (3, .ref (ad 33 0)), (4, .ref (ad 34 0))]) hx hb dL_law_2168 hl rfl (by decide) (by decide) rfl (fun ls hl => ?_)
    refine zb_goto (tgt := 28) hx hb dL_law_2171 (by decide) ?_
    exact kk _ S _ _ _ _ _ _ _ _ _ hG hS hD2 h6 hy.2 (by omega) (by omega) (lv_sub hl [1, 2, 3, 4, 5, 0] rfl)
  · exact absurd rfl c_2163

