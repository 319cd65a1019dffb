
/-- an int as an index: below 0 it is none that can be met -/
def zs_ix (x : Int32) : Nat := if x < 0 then 2 ^ 31 else x.toNatClampNeg
theorem zs_ixc (x : Int32) : (x < 0 ∧ zs_ix x = 2 ^ 31) ∨ ∃ n, n < 2 ^ 31 ∧ x = nI n ∧ zs_ix x = n := by
  by_cases h : x < 0
  · exact Or.inl ⟨h, if_pos h⟩
  · obtain ⟨j, hj, e⟩ := nI_of h
    refine Or.inr ⟨j, hj, e, ?_⟩
    unfold zs_ix
    rw [if_neg h, e, nI_clamp hj]
theorem zs_ixn {n : Nat} (h : n < 2 ^ 31) : zs_ix (nI n) = n := by
  unfold zs_ix
  rw [if_neg (nI_pos h), nI_clamp h]
theorem zs_b1 {b : Bool} (h : (if b = true then 1 else 0) ≠ 0) : b = true := by
  cases b with
  | true => rfl
  | false => exact absurd rfl h
theorem zs_b0 {b : Bool} (h : (if b = true then 1 else 0) = 0) : b = false := by
  cases b with
  | true => exact absurd h (by decide)
  | false => rfl
theorem zs_bl (b : Bool) : (if b = true then 1 else 0) < 2 ^ 31 := by cases b <;> decide
theorem zs_pt_n {S : za_S} {r : Nat} (h : S.2 3 r 0 = none) : zs_pt S r = (za_P (zs_end S r) 3 r 0 (zs_cand S r), (zs_cand S r).isSome) := by
  unfold zs_pt
  rw [if_pos h]
theorem zs_pt_0 {S : za_S} {r : Nat} (h : S.2 3 r 0 ≠ none) (h2 : zs_lt S r (zs_cand S r) = false) : zs_pt S r = (zs_end S r, false) := by
  unfold zs_pt
  rw [if_neg h, if_pos h2]
theorem zs_pt_1 {S : za_S} {r : Nat} (h : S.2 3 r 0 ≠ none) (h2 : zs_lt S r (zs_cand S r) = true) (h3 : zs_chn S r < 3) : zs_pt S r = (za_P (za_N S 6 r 0 (zs_chn S r)) 4 r 0 (zs_cand S r), false) := by
  unfold zs_pt
  rw [if_neg h, if_neg (by rw [h2]; decide), if_pos h3]
theorem zs_pt_2 {S : za_S} {r : Nat} (h : S.2 3 r 0 ≠ none) (h2 : zs_lt S r (zs_cand S r) = true) (h3 : ¬ zs_chn S r < 3) : zs_pt S r = (zs_end (za_P (za_P (za_N S 6 r 0 (zs_chn S r)) 4 r 0 (zs_cand S r)) 3 r 0 (zs_cand S r)) r, true) := by
  unfold zs_pt
  rw [if_neg h, if_neg (by rw [h2]; decide), if_neg h3]
theorem zs_chn_le {S : za_S} (r : Nat) (h : zs_B S) : zs_chn S r < 2 ^ 31 := by
  unfold zs_chn
  have := h 6 r 0
  split <;> omega
/-- what the class's own rows hold: who is there, and where the rows' numbers lie -/
def zs_J (S X : za_S) : Prop := S.1 0 0 0 ≤ 10 ∧ S.1 0 1 0 ≤ 6 ∧ S.1 0 2 0 ≤ 8 ∧ X.1 5 0 0 = S.1 0 0 0 ∧ X.1 5 1 0 = S.1 0 1 0 ∧ X.1 5 2 0 = S.1 0 2 0 ∧ (∀ j, X.2 1 j 0 = if j < S.1 0 0 0 then some j else none) ∧ (∀ j, X.2 2 j 0 = if j < S.1 0 1 0 then some j else none) ∧ (∀ j, X.2 3 j 0 = if j < S.1 0 2 0 then some j else none)
theorem zs_J.e {S X : za_S} (h : zs_J S X) {j x : Nat} (e : X.2 1 j 0 = some x) : x = j ∧ j < S.1 0 0 0 := by
  rw [h.2.2.2.2.2.2.1] at e
  by_cases hc : j < S.1 0 0 0
  · rw [if_pos hc] at e
    exact ⟨(Option.some.inj e).symm, hc⟩
  · rw [if_neg hc] at e
    cases e
theorem zs_J.r {S X : za_S} (h : zs_J S X) {j x : Nat} (e : X.2 2 j 0 = some x) : x = j ∧ j < S.1 0 1 0 := by
  rw [h.2.2.2.2.2.2.2.1] at e
  by_cases hc : j < S.1 0 1 0
  · rw [if_pos hc] at e
    exact ⟨(Option.some.inj e).symm, hc⟩
  · rw [if_neg hc] at e
    cases e
theorem zs_J.k {S X : za_S} (h : zs_J S X) {j x : Nat} (e : X.2 3 j 0 = some x) : x = j ∧ j < S.1 0 2 0 := by
  rw [h.2.2.2.2.2.2.2.2] at e
  by_cases hc : j < S.1 0 2 0
  · rw [if_pos hc] at e
    exact ⟨(Option.some.inj e).symm, hc⟩
  · rw [if_neg hc] at e
    cases e
theorem zs_J.en {S X : za_S} (h : zs_J S X) {j : Nat} (e : X.2 1 j 0 = none) : ¬ j < S.1 0 0 0 := fun hc => by
  rw [h.2.2.2.2.2.2.1, if_pos hc] at e
  cases e
theorem zs_J.rn {S X : za_S} (h : zs_J S X) {j : Nat} (e : X.2 2 j 0 = none) : ¬ j < S.1 0 1 0 := fun hc => by
  rw [h.2.2.2.2.2.2.2.1, if_pos hc] at e
  cases e
theorem zs_J.kn {S X : za_S} (h : zs_J S X) {j : Nat} (e : X.2 3 j 0 = none) : ¬ j < S.1 0 2 0 := fun hc => by
  rw [h.2.2.2.2.2.2.2.2, if_pos hc] at e
  cases e
theorem zs_J.fr {S X X' : za_S} (h : zs_J S X) (f : zs_fr X X') : zs_J S X' := by
  obtain ⟨f1, f2, f3, f4, f5, f6, f7, f8⟩ := f
  obtain ⟨h1, h2, h3, h4, h5, h6, h7, h8, h9⟩ := h
  exact ⟨h1, h2, h3, by rw [f4]; exact h4, by rw [f4]; exact h5, by rw [f4]; exact h6, by rw [f5]; exact h7, by rw [f6]; exact h8, by rw [f7]; exact h9⟩
/-- are two people together in a room -/
def zs_tg (S : za_S) (x y : Option Nat) : Bool := match x, y with
  | some a, some c => decide (S.2 0 a 0 ≠ none ∧ S.2 0 a 0 = S.2 0 c 0)
  | _, _ => false
theorem zt_ng_IAE : ∀ w ∈ (vx_atS RX6 120 "java/lang/IllegalArgumentException" za_nm).filter (fun w => !goodWord w), w ∈ Cond.castable "java/lang/IllegalArgumentException" "java/lang/IllegalArgumentException" :: za_decl.map (fun q => Cond.declares (Bundle.initS q)) := by decide +kernel
theorem zt_gd_IAE : ∀ w ∈ Cond.classLink RX6 116 "java/lang/IllegalArgumentException" :: Cond.initialized "java/lang/IllegalArgumentException" :: vx_atS RX6 120 "java/lang/IllegalArgumentException" za_nm, vx_ot w = true := by decide +kernel
theorem zt_ng_IOB : ∀ w ∈ (vx_atS RX6 244 "java/lang/IndexOutOfBoundsException" za_nm).filter (fun w => !goodWord w), w ∈ Cond.castable "java/lang/IndexOutOfBoundsException" "java/lang/IndexOutOfBoundsException" :: za_decl.map (fun q => Cond.declares (Bundle.initS q)) := by decide +kernel
theorem zt_gd_IOB : ∀ w ∈ Cond.classLink RX6 240 "java/lang/IndexOutOfBoundsException" :: Cond.initialized "java/lang/IndexOutOfBoundsException" :: vx_atS RX6 244 "java/lang/IndexOutOfBoundsException" za_nm, vx_ot w = true := by decide +kernel
theorem zt_ng_ISE : ∀ w ∈ (vx_atS RX6 55 "java/lang/IllegalStateException" za_nm).filter (fun w => !goodWord w), w ∈ Cond.castable "java/lang/IllegalStateException" "java/lang/IllegalStateException" :: za_decl.map (fun q => Cond.declares (Bundle.initS q)) := by decide +kernel
theorem zt_gd_ISE : ∀ w ∈ Cond.classLink RX6 51 "java/lang/IllegalStateException" :: Cond.initialized "java/lang/IllegalStateException" :: vx_atS RX6 55 "java/lang/IllegalStateException" za_nm, vx_ot w = true := by decide +kernel
theorem zt_ng_NSE : ∀ w ∈ (vx_atX RX6 153 "java/util/NoSuchElementException" 13 zx_six za_nm).filter (fun w => !goodWord w), w ∈ Cond.castable "java/util/NoSuchElementException" "java/util/NoSuchElementException" :: za_decl.map (fun q => Cond.declares (Bundle.initS q)) := by decide +kernel
theorem zt_gd_NSE : ∀ w ∈ Cond.classLink RX6 149 "java/util/NoSuchElementException" :: Cond.initialized "java/util/NoSuchElementException" :: vx_atX RX6 153 "java/util/NoSuchElementException" 13 zx_six za_nm, vx_ot w = true := by decide +kernel
theorem zt_ng_UOE : ∀ w ∈ (vx_atS RX6 134 "java/lang/UnsupportedOperationException" za_nm).filter (fun w => !goodWord w), w ∈ Cond.castable "java/lang/UnsupportedOperationException" "java/lang/UnsupportedOperationException" :: za_decl.map (fun q => Cond.declares (Bundle.initS q)) := by decide +kernel
theorem zt_gd_UOE : ∀ w ∈ Cond.classLink RX6 130 "java/lang/UnsupportedOperationException" :: Cond.initialized "java/lang/UnsupportedOperationException" :: vx_atS RX6 134 "java/lang/UnsupportedOperationException" za_nm, vx_ot w = true := by decide +kernel
