
/-! ### calls keep what shall hold -/
theorem zq_set {S : za_S} {p v mx : Nat} (h : zo_set S p v mx = 0) : p < S.1 0 0 0 ∧ v ≤ mx := by
  unfold zo_set at h
  by_cases h1 : p < S.1 0 0 0
  · rw [if_neg (fun z => z h1)] at h
    by_cases h2 : v ≤ mx
    · exact ⟨h1, h2⟩
    · rw [if_pos h2] at h; cases h
  · rw [if_pos h1] at h; cases h
theorem zq_en {S : za_S} {p r : Nat} (h : zo_en S p r = 0) : p < S.1 0 0 0 ∧ r < S.1 0 1 0 ∧ S.2 0 p 0 ≠ some r := by
  unfold zo_en at h
  by_cases h1 : p < S.1 0 0 0
  · rw [if_neg (fun z => z h1)] at h
    by_cases h2 : r < S.1 0 1 0
    · rw [if_neg (fun z => z h2)] at h
      by_cases h3 : S.2 0 p 0 = some r
      · rw [if_pos h3] at h; cases h
      · exact ⟨h1, h2, h3⟩
    · rw [if_pos h2] at h; cases h
  · rw [if_pos h1] at h; cases h
theorem zq_po {S : za_S} {p c : Nat} (h : zo_po S p c = 0) : p < S.1 0 0 0 ∧ S.2 c p 0 ≠ none := by
  unfold zo_po at h
  by_cases h1 : p < S.1 0 0 0
  · rw [if_neg (fun z => z h1)] at h
    by_cases h2 : S.2 c p 0 = none
    · rw [if_pos h2] at h; cases h
    · exact ⟨h1, h2⟩
  · rw [if_pos h1] at h; cases h
theorem zq_jo {S : za_S} {a b : Nat} (h : zo_jo S a b = 0) : a < S.1 0 1 0 ∧ b < S.1 0 1 0 ∧ a ≠ b := by
  unfold zo_jo at h
  by_cases h1 : a < S.1 0 1 0
  · rw [if_neg (fun z => z h1)] at h
    by_cases h2 : b < S.1 0 1 0
    · rw [if_neg (fun z => z h2)] at h
      by_cases h3 : a = b
      · rw [if_pos h3] at h; cases h
      · exact ⟨h1, h2, h3⟩
    · rw [if_pos h2] at h; cases h
  · rw [if_pos h1] at h; cases h
theorem zq_pin {S : za_S} {p q : Nat} (h : zo_pin S p q = 0) : p < S.1 0 0 0 ∧ q < S.1 0 0 0 ∧ p ≠ q ∧ zs_tg S (some p) (some q) = true := by
  unfold zo_pin at h
  by_cases h1 : p < S.1 0 0 0
  · rw [if_neg (fun z => z h1)] at h
    by_cases h2 : q < S.1 0 0 0
    · rw [if_neg (fun z => z h2)] at h
      by_cases h3 : p = q
      · rw [if_pos h3] at h; cases h
      · rw [if_neg h3] at h
        by_cases h4 : zs_tg S (some p) (some q) = false
        · rw [if_pos h4] at h; cases h
        · exact ⟨h1, h2, h3, by simpa using h4⟩
    · rw [if_pos h2] at h; cases h
  · rw [if_pos h1] at h; cases h
theorem zq_ks {S : za_S} {k : Nat} (h : zo_ks S k = 0) : k < S.1 0 2 0 ∧ S.1 8 k 0 = 0 := by
  unfold zo_ks at h
  by_cases h1 : k < S.1 0 2 0
  · rw [if_neg (fun z => z h1)] at h
    by_cases h2 : S.1 8 k 0 ≠ 0
    · rw [if_pos h2] at h; cases h
    · exact ⟨h1, by omega⟩
  · rw [if_pos h1] at h; cases h
theorem zq_pass {S : za_S} {n : Nat} (h : zo_pass S n = 0) : 1 ≤ n ∧ n ≤ 60 ∧ S.1 0 3 0 + n ≤ 2000 := by
  unfold zo_pass at h
  by_cases h1 : n < 1 ∨ 60 < n
  · rw [if_pos h1] at h; cases h
  · rw [if_neg h1] at h
    by_cases h2 : 2000 < S.1 0 3 0 + n
    · rw [if_pos h2] at h; cases h
    · omega
theorem zw_fr {S X X2 : za_S} (h : zs_D S X) (f : zs_fr X X2) (hB : zs_B X2) : zs_D S X2 := by
  refine zd_mk h h.1 rfl rfl rfl f.fv hB ?_
  have hok := h.2.2.2.1
  have h10 := h.1.c.1
  exact ⟨fun v hv hn z hz => by rw [f.1 v (by omega)]; exact hok.1 v hv hn z hz, by rw [f.2.1]; exact hok.2⟩
theorem zw_set {S X X2 : za_S} {c p v : Nat} (h : zs_D S X) (hp : p < S.1 0 0 0) (hc : (c = 1 ∧ v ≤ 9999) ∨ (c = 2 ∧ v ≤ 3) ∨ (c = 3 ∧ v ≤ 99)) (f : zs_fv X X2) (hB : zs_B X2) (hok : zs_ok (za_N S c p 0 v) X2) : zs_D (za_N S c p 0 v) X2 :=
  zd_mk h (zs_I_set h.1 hp hc) (funext fun a => funext fun d => if_neg (by omega)) (funext fun a => funext fun d => if_neg (by omega)) (funext fun a => funext fun d => if_neg (by omega)) f hB hok
theorem zw_loud {S X : za_S} {p v : Nat} (h : zs_D S X) (hp : p < S.1 0 0 0) (hv : v ≤ 99) : zs_D (za_N S 3 p 0 v) X :=
  zw_set h hp (Or.inr (Or.inr ⟨rfl, hv⟩)) (zs_fv.rf X) h.2.2.1 (zs_se.ok (A := S) (B := za_N S 3 p 0 v) ⟨rfl, rfl, rfl, rfl, rfl, rfl, rfl, rfl⟩ h.2.2.2.1)
theorem zs_st_1 (S : za_S) (n : Nat) : (zs_st S n).1 = S.1 := rfl
theorem zw_mv {S X X2 : za_S} {p : Nat} {q : Option Nat} (h : zs_D S X) (hp : p < S.1 0 0 0) (hq : ∀ t, q = some t → t < S.1 0 1 0) (hn : S.2 0 p 0 ≠ q) (f : zs_fv X X2) (hB : zs_B X2) (hok : zs_ok (zs_st (zs_mv S p q) 10) X2) : zs_D (zs_st (zs_mv S p q) 10) X2 :=
  zd_mk h (zs_W_st (zs_W_mv h.1.1 hp hq hn)) (by rw [zs_st_1]; exact zs_mv_1 S p q (by decide) (by decide)) (by rw [zs_st_1]; exact zs_mv_1 S p q (by decide) (by decide)) (by rw [zs_st_1]; exact zs_mv_1 S p q (by decide) (by decide)) f hB hok
theorem zw_jo {S X X2 : za_S} {a b : Nat} (h : zs_D S X) (hb : b < S.1 0 1 0) (hn : a ≠ b) (f : zs_fv X X2) (hB : zs_B X2) (hok : zs_ok (zs_st (zs_fw (zs_jn S a b 10) a b 8) 10) X2) : zs_D (zs_st (zs_fw (zs_jn S a b 10) a b 8) 10) X2 := by
  obtain ⟨jQ, jc⟩ := zs_jn_f h.1.1 hb hn 10
  obtain ⟨fQ, f1, -, -⟩ := zs_fw_f jQ a (b := b) (by rw [jc]; exact hb) 8
  exact zd_mk h (zs_W_st fQ) (by rw [zs_st_1, f1 0 (by decide)]; exact zs_jn_1 S a b (by decide) (by decide) 10) (by rw [zs_st_1, f1 7 (by decide)]; exact zs_jn_1 S a b (by decide) (by decide) 10) (by rw [zs_st_1, f1 4 (by decide)]; exact zs_jn_1 S a b (by decide) (by decide) 10) f hB hok
theorem zw_jo6 {S : za_S} (h : zs_6 S) (a b : Nat) : zs_6 (zs_st (zs_fw (zs_jn S a b 10) a b 8) 10) := fun i => by
  have e : ∀ k, (zs_fw (zs_jn S a b 10) a b k).1 6 = (zs_jn S a b 10).1 6 := by
    intro k
    induction k with
    | zero => rfl
    | succ k ih =>
      by_cases q : k < (zs_jn S a b 10).1 0 2 0 ∧ (zs_jn S a b 10).1 9 k 0 = a
      · rw [zs_fw_y q]
        exact ih
      · rw [zs_fw_n q]
        exact ih
  rw [zs_st_1, e]
  exact zs_jn_6 h a b 10 i
theorem zw_stop {S X : za_S} {k : Nat} (h : zs_D S X) (hk : k < S.1 0 2 0) : zs_D (za_N S 8 k 0 1) X := by
  have hI : zs_I (za_N S 8 k 0 1) := by
    obtain ⟨⟨g1, g2, g3, g4, g5, g6, g7, g8, g9, g10, g11, g12, g13, g14, g15, g16, g17⟩, g⟩ := h.1
    refine ⟨⟨zs_N_B g1 (by decide), g2, g3, g4, g5, g6, g7, g8, g9, g10, g11, fun a => ⟨(g12 a).1, (g12 a).2.1, (g12 a).2.2.1, ?_⟩, g13, g14, g15, g16, fun j hj h8 => ⟨(g17 j hj h8).1, ?_⟩⟩, g⟩
    · show (if _ then _ else _) ≤ 1
      split
      · exact Nat.le_refl _
      · exact (g12 a).2.2.2
    · have hj' : S.1 0 2 0 ≤ j := hj
      show (if _ then _ else _) = 0
      rw [if_neg (fun z => by have := z.2.1; omega)]
      exact (g17 j hj' h8).2
  exact zd_mk h hI rfl rfl rfl (zs_fv.rf X) h.2.2.1 (zs_se.ok (A := S) (B := za_N S 8 k 0 1) ⟨rfl, rfl, rfl, rfl, rfl, rfl, rfl, rfl⟩ h.2.2.2.1)
theorem zw_D.M {S X Y : za_S} (h : zs_D S X) (h6 : zs_6 S) (hY : zs_B Y) : zs_M S Y := ⟨h.1, h.2.2.2.2.2, h6, hY⟩
