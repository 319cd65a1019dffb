
/-! ### the wrappers' one form of answer -/
theorem zw_pin {S X X2 : za_S} {p q : Nat} (h : zs_D S X) (hq : zo_pin S p q = 0) (f : zs_fv X X2) (hB : zs_B X2) (hok : zs_ok (za_P S 1 p 0 (some q)) X2) : zs_D (za_P S 1 p 0 (some q)) X2 := by
  obtain ⟨a1, a2, a3, a4⟩ := zq_pin hq
  exact zd_mk h (zs_I_pin h.1 a1 a2 a3 a4) rfl rfl rfl f hB hok
theorem zw_unpin {S X X2 : za_S} {p : Nat} (h : zs_D S X) (hq : zo_po S p 1 = 0) (f : zs_fv X X2) (hB : zs_B X2) (hok : zs_ok (za_P S 1 p 0 none) X2) : zs_D (za_P S 1 p 0 none) X2 :=
  zd_mk h (zs_I_unpin h.1 (zq_po hq).1) rfl rfl rfl f hB hok
def zw_post (ad : za_Ad) (S T Y : za_S) (dw : UInt64) (C : Nat) (N : za_S) (O : Int64) (r : Int32) (u : za_T) : Prop :=
  ∃ ad2 S2 X2 ow2, r = nI C ∧ u = (ad2, S2, X2, T, Y, ow2, dw) ∧ zk_sm ad ad2 ∧ zs_D S2 X2 ∧ zs_6 S2 ∧ ((C = 0 ∧ S2 = N ∧ ow2 = O) ∨ (C ≠ 0 ∧ S2 = S))
theorem zw_ok {ad ad2 : za_Ad} {S T Y N X2 : za_S} {ow2 : Int64} {dw : UInt64} {C : Nat} {O : Int64} {r : Int32} (hC : C = 0) (hr : r = nI 0) (hO : ow2 = O) (hs : zk_sm ad ad2) (hD : zs_D N X2) (h6 : zs_6 N) : zw_post ad S T Y dw C N O r (ad2, N, X2, T, Y, ow2, dw) :=
  ⟨ad2, N, X2, ow2, by rw [hC]; exact hr, rfl, hs, hD, h6, Or.inl ⟨hC, rfl, hO⟩⟩
theorem zw_no {ad : za_Ad} {S X T Y N : za_S} {ow : Int64} {dw : UInt64} {C n : Nat} {O : Int64} {r : Int32} (hC : C = n + 1) (hr : r = nI (n + 1)) (hD : zs_D S X) (h6 : zs_6 S) : zw_post ad S T Y dw C N O r (ad, S, X, T, Y, ow, dw) :=
  ⟨ad, S, X, ow, by rw [hC]; exact hr, rfl, fun _ _ => rfl, hD, h6, Or.inr ⟨by omega, rfl⟩⟩
theorem zk_sm.rf (ad : za_Ad) : zk_sm ad ad := fun _ _ => rfl
