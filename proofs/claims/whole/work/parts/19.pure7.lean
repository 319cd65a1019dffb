
/-- what always holds of the numbers that the document speaks of -/
def zs_Q (S : za_S) : Prop :=
  zs_B S ∧ (S.1 0 0 0 ≤ 10 ∧ S.1 0 1 0 ≤ 6 ∧ S.1 0 2 0 ≤ 8) ∧ (∀ r, S.1 5 r 0 ≤ 10) ∧
  (∀ a r, a < S.1 0 0 0 → S.2 0 a 0 = some r → r < S.1 0 1 0 ∧ ∃ j, j < S.1 5 r 0 ∧ S.2 2 r j = some a) ∧
  (∀ r j, j < S.1 5 r 0 → ∃ a, a < S.1 0 0 0 ∧ S.2 2 r j = some a ∧ S.2 0 a 0 = some r) ∧
  (∀ r j k, j < S.1 5 r 0 → k < S.1 5 r 0 → S.2 2 r j = S.2 2 r k → j = k) ∧
  (∀ r i x, S.2 2 r i = some x → x < S.1 0 0 0) ∧
  (∀ r x, r < S.1 0 1 0 → S.2 3 r 0 = some x → x < S.1 0 0 0 ∧ S.2 0 x 0 = some r) ∧
  (∀ r x, r < S.1 0 1 0 → S.2 4 r 0 = some x → x < S.1 0 0 0) ∧
  (∀ a q, a < S.1 0 0 0 → S.2 1 a 0 = some q → q < S.1 0 0 0 ∧ q ≠ a) ∧
  (∀ k, k < S.1 0 2 0 → S.1 9 k 0 < S.1 0 1 0) ∧
  (∀ a, S.1 1 a 0 ≤ 9999 ∧ S.1 2 a 0 ≤ 3 ∧ S.1 3 a 0 ≤ 99 ∧ S.1 8 a 0 ≤ 1) ∧
  (S.1 0 3 0 ≤ 2000 ∧ S.1 7 8 0 ≤ 6 * S.1 0 3 0 ∧ ∀ k, k < 8 → S.1 7 k 0 ≤ S.1 0 3 0) ∧
  (∀ k j, S.1 7 k 0 ≤ j → S.2 5 k j = some 0) ∧
  (∀ a, S.1 0 0 0 ≤ a → S.1 2 a 0 = 0 ∧ S.1 3 a 0 = 0 ∧ S.1 4 a 0 = 0) ∧
  (∀ r, S.1 0 1 0 ≤ r → S.1 5 r 0 = 0 ∧ S.1 6 r 0 = 0 ∧ ∀ j, S.2 2 r j = none) ∧
  (∀ k, S.1 0 2 0 ≤ k → k < 8 → S.1 7 k 0 = 0 ∧ S.1 8 k 0 = 0)
theorem zs_Q.B {S : za_S} (h : zs_Q S) : zs_B S := h.1
theorem zs_Q.c {S : za_S} (h : zs_Q S) : S.1 0 0 0 ≤ 10 ∧ S.1 0 1 0 ≤ 6 ∧ S.1 0 2 0 ≤ 8 := h.2.1
theorem zs_Q.sz {S : za_S} (h : zs_Q S) (r : Nat) : S.1 5 r 0 ≤ 10 := h.2.2.1 r
theorem zs_Q.ro {S : za_S} (h : zs_Q S) {a r : Nat} (ha : a < S.1 0 0 0) (e : S.2 0 a 0 = some r) : r < S.1 0 1 0 := (h.2.2.2.1 a r ha e).1
theorem zs_Q.at {S : za_S} (h : zs_Q S) {a r : Nat} (ha : a < S.1 0 0 0) (e : S.2 0 a 0 = some r) : ∃ j, j < S.1 5 r 0 ∧ S.2 2 r j = some a := (h.2.2.2.1 a r ha e).2
theorem zs_Q.oc {S : za_S} (h : zs_Q S) {r j : Nat} (hj : j < S.1 5 r 0) : ∃ a, a < S.1 0 0 0 ∧ S.2 2 r j = some a ∧ S.2 0 a 0 = some r := h.2.2.2.2.1 r j hj
theorem zs_Q.un {S : za_S} (h : zs_Q S) {r j k : Nat} (hj : j < S.1 5 r 0) (hk : k < S.1 5 r 0) (e : S.2 2 r j = S.2 2 r k) : j = k := h.2.2.2.2.2.1 r j k hj hk e
theorem zs_Q.pe {S : za_S} (h : zs_Q S) (r i x : Nat) (e : S.2 2 r i = some x) : x < S.1 0 0 0 := h.2.2.2.2.2.2.1 r i x e
theorem zs_Q.sp {S : za_S} (h : zs_Q S) {r x : Nat} (hr : r < S.1 0 1 0) (e : S.2 3 r 0 = some x) : x < S.1 0 0 0 ∧ S.2 0 x 0 = some r := h.2.2.2.2.2.2.2.1 r x hr e
theorem zs_Q.ch {S : za_S} (h : zs_Q S) {r x : Nat} (hr : r < S.1 0 1 0) (e : S.2 4 r 0 = some x) : x < S.1 0 0 0 := h.2.2.2.2.2.2.2.2.1 r x hr e
theorem zs_Q.pi {S : za_S} (h : zs_Q S) {a q : Nat} (ha : a < S.1 0 0 0) (e : S.2 1 a 0 = some q) : q < S.1 0 0 0 ∧ q ≠ a := h.2.2.2.2.2.2.2.2.2.1 a q ha e
theorem zs_Q.fo {S : za_S} (h : zs_Q S) {k : Nat} (hk : k < S.1 0 2 0) : S.1 9 k 0 < S.1 0 1 0 := h.2.2.2.2.2.2.2.2.2.2.1 k hk
theorem zs_Q.z {S : za_S} (h : zs_Q S) (a : Nat) : S.1 1 a 0 ≤ 9999 ∧ S.1 2 a 0 ≤ 3 ∧ S.1 3 a 0 ≤ 99 ∧ S.1 8 a 0 ≤ 1 := h.2.2.2.2.2.2.2.2.2.2.2.1 a
theorem zs_Q.t {S : za_S} (h : zs_Q S) : S.1 0 3 0 ≤ 2000 ∧ S.1 7 8 0 ≤ 6 * S.1 0 3 0 ∧ ∀ k, k < 8 → S.1 7 k 0 ≤ S.1 0 3 0 := h.2.2.2.2.2.2.2.2.2.2.2.2.1
theorem zs_Q.rz {S : za_S} (h : zs_Q S) {k j : Nat} (hj : S.1 7 k 0 ≤ j) : S.2 5 k j = some 0 := h.2.2.2.2.2.2.2.2.2.2.2.2.2.1 k j hj
theorem zs_Q.pl {S : za_S} (h : zs_Q S) {a r : Nat} (ha : a < S.1 0 0 0) (e : S.2 0 a 0 = some r) : zs_pl S r a < S.1 5 r 0 := by
  obtain ⟨j, h1, h2⟩ := h.at ha e
  exact zs_fd_lt h1 h2
/-- .. and pins are within a room -/
def zs_I (S : za_S) : Prop := zs_Q S ∧ ∀ a q, a < S.1 0 0 0 → S.2 1 a 0 = some q → S.2 0 a 0 ≠ none ∧ S.2 0 q 0 = S.2 0 a 0
theorem zs_I.B {S : za_S} (h : zs_I S)  : zs_B S := h.1.B 
theorem zs_I.c {S : za_S} (h : zs_I S)  : S.1 0 0 0 ≤ 10 ∧ S.1 0 1 0 ≤ 6 ∧ S.1 0 2 0 ≤ 8 := h.1.c 
theorem zs_I.sz {S : za_S} (h : zs_I S) (r : Nat) : S.1 5 r 0 ≤ 10 := h.1.sz r
theorem zs_I.ro {S : za_S} (h : zs_I S) {a r : Nat} (ha : a < S.1 0 0 0) (e : S.2 0 a 0 = some r) : r < S.1 0 1 0 := h.1.ro ha e
theorem zs_I.at {S : za_S} (h : zs_I S) {a r : Nat} (ha : a < S.1 0 0 0) (e : S.2 0 a 0 = some r) : ∃ j, j < S.1 5 r 0 ∧ S.2 2 r j = some a := h.1.at ha e
theorem zs_I.oc {S : za_S} (h : zs_I S) {r j : Nat} (hj : j < S.1 5 r 0) : ∃ a, a < S.1 0 0 0 ∧ S.2 2 r j = some a ∧ S.2 0 a 0 = some r := h.1.oc hj
theorem zs_I.un {S : za_S} (h : zs_I S) {r j k : Nat} (hj : j < S.1 5 r 0) (hk : k < S.1 5 r 0) (e : S.2 2 r j = S.2 2 r k) : j = k := h.1.un hj hk e
theorem zs_I.pe {S : za_S} (h : zs_I S) (r i x : Nat) (e : S.2 2 r i = some x) : x < S.1 0 0 0 := h.1.pe r i x e
theorem zs_I.sp {S : za_S} (h : zs_I S) {r x : Nat} (hr : r < S.1 0 1 0) (e : S.2 3 r 0 = some x) : x < S.1 0 0 0 ∧ S.2 0 x 0 = some r := h.1.sp hr e
theorem zs_I.ch {S : za_S} (h : zs_I S) {r x : Nat} (hr : r < S.1 0 1 0) (e : S.2 4 r 0 = some x) : x < S.1 0 0 0 := h.1.ch hr e
theorem zs_I.pi {S : za_S} (h : zs_I S) {a q : Nat} (ha : a < S.1 0 0 0) (e : S.2 1 a 0 = some q) : q < S.1 0 0 0 ∧ q ≠ a := h.1.pi ha e
theorem zs_I.fo {S : za_S} (h : zs_I S) {k : Nat} (hk : k < S.1 0 2 0) : S.1 9 k 0 < S.1 0 1 0 := h.1.fo hk
theorem zs_I.z {S : za_S} (h : zs_I S) (a : Nat) : S.1 1 a 0 ≤ 9999 ∧ S.1 2 a 0 ≤ 3 ∧ S.1 3 a 0 ≤ 99 ∧ S.1 8 a 0 ≤ 1 := h.1.z a
theorem zs_I.t {S : za_S} (h : zs_I S)  : S.1 0 3 0 ≤ 2000 ∧ S.1 7 8 0 ≤ 6 * S.1 0 3 0 ∧ ∀ k, k < 8 → S.1 7 k 0 ≤ S.1 0 3 0 := h.1.t 
theorem zs_I.rz {S : za_S} (h : zs_I S) {k j : Nat} (hj : S.1 7 k 0 ≤ j) : S.2 5 k j = some 0 := h.1.rz hj
theorem zs_I.pl {S : za_S} (h : zs_I S) {a r : Nat} (ha : a < S.1 0 0 0) (e : S.2 0 a 0 = some r) : zs_pl S r a < S.1 5 r 0 := h.1.pl ha e
theorem zs_I.pp {S : za_S} (h : zs_I S) {a q : Nat} (ha : a < S.1 0 0 0) (e : S.2 1 a 0 = some q) : S.2 0 a 0 ≠ none ∧ S.2 0 q 0 = S.2 0 a 0 := h.2 a q ha e
theorem zs_I.Va {S : za_S} (h : zs_I S) : zs_Va S := sorry
/-- the lookups of the class's own: what a call may ask -/
def zs_R (S X : za_S) : Prop := ∀ k, (k < S.1 0 2 0 ∨ k = 8) → S.1 7 k 0 ≤ X.1 4 k 0 ∧ X.1 4 k 0 ≤ (if k = 8 then 12000 else 2000) ∧ 16 ≤ X.1 4 k 0
def zs_C (S X : za_S) : Prop := zs_I S ∧ zs_J S X ∧ zs_B X ∧ zs_ok S X ∧ zs_R S X

def zo_set (S : za_S) (p v mx : Nat) : Nat := if ¬ p < S.1 0 0 0 then 1 else if ¬ v ≤ mx then 2 else 0
/-- lists of people don't hang on budgets, layers that are sent, loudness -/
theorem zs_rest_N (S : za_S) (v r : Nat) {c : Nat} (a n : Nat) : ∀ i, zs_rest (za_N S c a 0 n) v r i = zs_rest S v r i
  | 0 => rfl
  | i + 1 => by
    unfold zs_rest
    rw [zs_rest_N S v r a n i]
    rfl
theorem zs_Va_N {S : za_S} (h : zs_I S) (c : Nat) (hc : c ≠ 0 ∧ c ≠ 5) (a n : Nat) : zs_Va (za_N S c a 0 n) := by
  have e0 : ∀ i, (za_N S c a 0 n).1 0 i 0 = S.1 0 i 0 := fun i => if_neg (fun q => hc.1 q.1.symm)
  have e5 : ∀ i, (za_N S c a 0 n).1 5 i 0 = S.1 5 i 0 := fun i => if_neg (fun q => hc.2 q.1.symm)
  intro v hv
  rw [e0] at hv
  obtain ⟨g1, g2, g3, g4, g5, g6, g7⟩ := h.Va v hv
  refine ⟨by rw [e0]; exact g1, by rw [e0]; exact g2, by rw [e0]; exact g3, by rw [e0]; exact g4, fun r i e hi => ?_, fun r e => by rw [e5]; exact g6 r e, by rw [e0]; exact g7⟩
  rw [e5] at hi
  rw [zs_rest_N]
  exact g5 r i e hi

def zo_p (S : za_S) (p : Nat) : Nat := if ¬ p < S.1 0 0 0 then 1 else 0
def zo_pp (S : za_S) (p q : Nat) : Nat := if ¬ p < S.1 0 0 0 then 1 else if ¬ q < S.1 0 0 0 then 1 else 0
def zo_r (S : za_S) (r : Nat) : Nat := if ¬ r < S.1 0 1 0 then 1 else 0
def zo_k (S : za_S) (k : Nat) : Nat := if ¬ k < S.1 0 2 0 then 1 else 0
def zo_po (S : za_S) (p c : Nat) : Nat := if ¬ p < S.1 0 0 0 then 1 else if S.2 c p 0 = none then 2 else 0
def zo_rs (S : za_S) (r : Nat) : Nat := if ¬ r < S.1 0 1 0 then 1 else if S.2 3 r 0 = none then 2 else 0
def zo_ra (S : za_S) (r i : Nat) : Nat := if ¬ r < S.1 0 1 0 then 1 else if zs_at S r i = none then 2 else 0
def zo_ks (S : za_S) (k : Nat) : Nat := if ¬ k < S.1 0 2 0 then 1 else if S.1 8 k 0 ≠ 0 then 2 else 0
def zo_kn (S : za_S) (k i : Nat) : Nat := if ¬ k < S.1 0 2 0 then 1 else if ¬ i < S.1 7 k 0 then 2 else 0
theorem zs_at_v {S : za_S} (h : zs_I S) {r i x : Nat} (e : zs_at S r i = some x) : x < S.1 0 0 0 := by
  unfold zs_at at e
  split at e
  · exact h.pe _ _ _ e
  · cases e
def zo_t (S : za_S) (i : Nat) : Nat := if ¬ i < S.1 7 8 0 then 1 else 0
def zo_pin (S : za_S) (p q : Nat) : Nat := if ¬ p < S.1 0 0 0 then 1 else if ¬ q < S.1 0 0 0 then 1 else if p = q then 2 else if zs_tg S (some p) (some q) = false then 3 else 0
def zo_en (S : za_S) (p r : Nat) : Nat := if ¬ p < S.1 0 0 0 then 1 else if ¬ r < S.1 0 1 0 then 2 else if S.2 0 p 0 = some r then 3 else 0
def zo_he (S : za_S) (p q : Nat) : Bool := decide (p ≠ q) && (zs_tg S (some p) (some q) && decide (10 ≤ S.1 3 q 0))
theorem zo_he_t {S : za_S} {p q : Nat} (h1 : p ≠ q) (h2 : zs_tg S (some p) (some q) = true) (h3 : 10 ≤ S.1 3 q 0) : zo_he S p q = true := by
  unfold zo_he
  rw [decide_eq_true h1, h2, decide_eq_true h3]
  rfl
theorem zo_he_1 {S : za_S} {p q : Nat} (h3 : S.1 3 q 0 < 10) : zo_he S p q = false := by
  unfold zo_he
  rw [decide_eq_false (by omega : ¬ 10 ≤ S.1 3 q 0), Bool.and_false, Bool.and_false]
theorem zo_he_2 {S : za_S} {p q : Nat} (h2 : zs_tg S (some p) (some q) = false) : zo_he S p q = false := by
  unfold zo_he
  rw [h2, Bool.false_and, Bool.and_false]
theorem zo_he_3 {S : za_S} {p q : Nat} (h1 : p = q) : zo_he S p q = false := by
  unfold zo_he
  rw [decide_eq_false (fun h => h h1), Bool.false_and]
def zs_vc (S : za_S) (q n : Nat) : Nat := zs_sum (fun v => if v < S.1 0 0 0 ∧ 1 ≤ (zs_ch S v).1 q then 1 else 0) n
theorem zs_vc_le (S : za_S) (q n : Nat) : zs_vc S q n ≤ n * 1 := zs_sum_le _ 1 (fun v => by show (if _ then _ else _) ≤ _; split <;> omega) n
theorem zs_I_pin {S : za_S} (h : zs_I S) {p q : Nat} (hp : p < S.1 0 0 0) (hq : q < S.1 0 0 0) (hn : p ≠ q) (ht : zs_tg S (some p) (some q) = true) : zs_I (za_P S 1 p 0 (some q)) := sorry
theorem zs_I_unpin {S : za_S} (h : zs_I S) {p : Nat} (hp : p < S.1 0 0 0) : zs_I (za_P S 1 p 0 none) := sorry
