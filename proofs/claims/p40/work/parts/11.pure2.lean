
/-! ===== the line, the layers that are taken ===== -/
abbrev zs_W : Type := (Nat → Nat) × Nat
def zs_tk (S : za_S) (ly : Nat) (w : zs_W) (x : Nat) : zs_W :=
  if w.1 x = ly - 1 ∧ ly ≤ S.1 2 x 0 ∧ zs_need ly - zs_need (ly - 1) ≤ w.2 then (fun q => if q = x then ly else w.1 q, w.2 - (zs_need ly - zs_need (ly - 1))) else w
def zs_fa (S : za_S) (ly : Nat) (L : List Nat) (w : zs_W) : zs_W := L.foldl (zs_tk S ly) w
def zs_hd (S : za_S) (ly : Nat) (L : List Nat) (w : zs_W) : zs_W := match L with
  | [] => w
  | x :: _ => zs_tk S ly w x
def zs_first (S : za_S) (v r : Nat) : Option Nat := match S.2 1 v 0 with
  | some q => some q
  | none => S.2 3 r 0
def zs_ap (o : Option Nat) (v : Nat) (L : List Nat) : List Nat := match o with
  | none => L
  | some x => if x ≠ v then L ++ [x] else L
def zs_rest (S : za_S) (v r : Nat) : Nat → List Nat
  | 0 => zs_ap (zs_first S v r) v []
  | i + 1 => if S.2 2 r i = zs_first S v r then zs_rest S v r i else zs_ap (S.2 2 r i) v (zs_rest S v r i)
def zs_ln (S : za_S) (v : Nat) : List Nat := match S.2 0 v 0 with
  | none => []
  | some r => zs_rest S v r (S.1 5 r 0)
def zs_ch (S : za_S) (v : Nat) : zs_W :=
  zs_fa S 3 (zs_ln S v) (zs_fa S 2 (zs_ln S v) (zs_hd S 3 (zs_ln S v) (zs_hd S 2 (zs_ln S v) (zs_fa S 1 (zs_ln S v) (fun _ => 0, S.1 1 v 0)))))
/-- what the chooser's rows hold -/
def zs_sc (X : za_S) (L : List Nat) (w : zs_W) : Prop := X.1 1 0 0 = L.length ∧ (∀ j, j < L.length → X.2 0 j 0 = L[j]?) ∧ (∀ p, p < 10 → X.1 0 10 p = w.1 p) ∧ X.1 2 0 0 = w.2
/-- what else of the class's own numbers stays -/
def zs_fr (X X' : za_S) : Prop := (∀ i, i ≠ 10 → X'.1 0 i = X.1 0 i) ∧ X'.1 3 = X.1 3 ∧ X'.1 4 = X.1 4 ∧ X'.1 5 = X.1 5 ∧ X'.2 1 = X.2 1 ∧ X'.2 2 = X.2 2 ∧ X'.2 3 = X.2 3 ∧ X'.2 6 = X.2 6
theorem zs_fr.rf (X : za_S) : zs_fr X X := ⟨fun _ _ => rfl, rfl, rfl, rfl, rfl, rfl, rfl, rfl⟩
theorem zs_fr.tr {X Y Z : za_S} (h : zs_fr X Y) (g : zs_fr Y Z) : zs_fr X Z :=
  ⟨fun i hi => (g.1 i hi).trans (h.1 i hi), g.2.1.trans h.2.1, g.2.2.1.trans h.2.2.1, g.2.2.2.1.trans h.2.2.2.1, g.2.2.2.2.1.trans h.2.2.2.2.1, g.2.2.2.2.2.1.trans h.2.2.2.2.2.1, g.2.2.2.2.2.2.1.trans h.2.2.2.2.2.2.1, g.2.2.2.2.2.2.2.trans h.2.2.2.2.2.2.2⟩
theorem zs_fr.c5 {X X' : za_S} (h : zs_fr X X') : X'.1 5 = X.1 5 := h.2.2.2.1
/-- one is put at the line's end -/
def zs_app (X : za_S) (o : Option Nat) (v : Nat) : za_S := match o with
  | none => X
  | some x => if x ≠ v ∧ X.1 1 0 0 < 10 then za_N (za_P X 0 (X.1 1 0 0) 0 (some x)) 1 0 0 (X.1 1 0 0 + 1) else X
theorem zs_app_fr (X : za_S) (o : Option Nat) (v : Nat) : zs_fr X (zs_app X o v) := by
  unfold zs_app
  split
  · exact zs_fr.rf X
  · split
    · refine ⟨fun i hi => ?_, ?_, ?_, ?_, ?_, ?_, ?_, ?_⟩ <;> (funext a; try funext b) <;> simp [za_N, za_P]
    · exact zs_fr.rf X
theorem zs_app_sc {X : za_S} {L : List Nat} {w : zs_W} (h : zs_sc X L w) (o : Option Nat) (v : Nat) (hl : o = some v ∨ o = none ∨ L.length < 10) : zs_sc (zs_app X o v) (zs_ap o v L) w := by
  obtain ⟨h1, h2, h3, h4⟩ := h
  unfold zs_app zs_ap
  cases o with
  | none => exact ⟨h1, h2, h3, h4⟩
  | some x =>
    by_cases hx : x = v
    · subst hx
      simp only [ne_eq, not_true_eq_false, false_and, if_false]
      exact ⟨h1, h2, h3, h4⟩
    · have hlen : L.length < 10 := by
        rcases hl with h | h | h
        · exact absurd (Option.some.inj h) hx
        · cases h
        · exact h
      simp only [ne_eq, hx, not_false_eq_true, true_and, if_true]
      rw [if_pos (by rw [h1]; exact hlen)]
      refine ⟨?_, fun j hj => ?_, fun p hp => ?_, ?_⟩
      · simp [za_N, h1]
      · rw [List.length_append, List.length_singleton] at hj
        by_cases hj2 : j = L.length
        · subst hj2
          simp [za_N, za_P, h1]
        · have hj3 : j < L.length := by omega
          rw [List.getElem?_append_left hj3, ← h2 j hj3]
          simp [za_N, za_P, h1, hj2]
      · have := h3 p hp
        simp [za_N, za_P, this]
      · simp [za_N, za_P, h4]
def zs_take (S X : za_S) (o : Option Nat) (ly : Nat) : za_S := match o with
  | none => X
  | some x => if X.1 0 10 x = ly - 1 ∧ ly ≤ S.1 2 x 0 ∧ zs_need ly - zs_need (ly - 1) ≤ X.1 2 0 0 then za_N (za_N X 2 0 0 (X.1 2 0 0 - (zs_need ly - zs_need (ly - 1)))) 0 10 x ly else X
theorem zs_take_fr (S X : za_S) (o : Option Nat) (ly : Nat) : zs_fr X (zs_take S X o ly) := by
  unfold zs_take
  split
  · exact zs_fr.rf X
  · split
    · refine ⟨fun i hi => ?_, ?_, ?_, ?_, ?_, ?_, ?_, ?_⟩ <;> (funext a; try funext b) <;> simp_all [za_N, za_P]
    · exact zs_fr.rf X
theorem zs_take_sc {S X : za_S} {L : List Nat} {w : zs_W} (h : zs_sc X L w) {x : Nat} (hx : x < 10) (ly : Nat) : zs_sc (zs_take S X (some x) ly) L (zs_tk S ly w x) := by
  obtain ⟨h1, h2, h3, h4⟩ := h
  unfold zs_take zs_tk
  simp only
  rw [h3 x hx, h4]
  split
  · refine ⟨?_, fun j hj => ?_, fun p hp => ?_, ?_⟩
    · simp [za_N, h1]
    · have := h2 j hj
      simp [za_N, this]
    · have := h3 p hp
      by_cases hq : p = x <;> simp [za_N, hq, this]
    · simp [za_N]
  · exact ⟨h1, h2, h3, h4⟩
theorem zs_take_len (S X : za_S) (o : Option Nat) (ly : Nat) : (zs_take S X o ly).1 1 0 0 = X.1 1 0 0 := by
  unfold zs_take
  split
  · rfl
  · split
    · simp [za_N]
    · rfl
theorem zs_need_mono {ly : Nat} (h : 1 ≤ ly) (h3 : ly ≤ 3) : zs_need (ly - 1) ≤ zs_need ly := by
  rcases (show ly = 1 ∨ ly = 2 ∨ ly = 3 by omega) with e | e | e <;> subst e <;> decide
theorem zs_fa_take (S : za_S) (ly : Nat) (L : List Nat) (w : zs_W) {i : Nat} (hi : i < L.length) : zs_fa S ly (L.take (i + 1)) w = zs_tk S ly (zs_fa S ly (L.take i) w) L[i] := by
  unfold zs_fa
  rw [List.take_succ_eq_append_getElem hi, List.foldl_append]
  rfl
/-! ===== rooms ===== -/
def zs_at (S : za_S) (r n : Nat) : Option Nat := if n < S.1 5 r 0 ∧ n < 10 then S.2 2 r n else none
/-- the people of room r close up from place k on; the places below n are done -/
def zs_sh (S : za_S) (r k n : Nat) : za_S := (S.1, fun c i j => if c = 2 ∧ i = r ∧ k ≤ j ∧ j < n then S.2 2 r (j + 1) else S.2 c i j)
theorem zs_sh_0 (S : za_S) (r k : Nat) : zs_sh S r k k = S := by
  refine Prod.ext rfl ?_
  funext c i j
  exact if_neg (fun h => absurd h.2.2.2 (Nat.not_lt.mpr h.2.2.1))
theorem zs_sh_succ (S : za_S) {r k n : Nat} (h : k ≤ n) : za_P (zs_sh S r k n) 2 r n (S.2 2 r (n + 1)) = zs_sh S r k (n + 1) := by
  refine Prod.ext rfl ?_
  funext c i j
  show (if _ then _ else if _ then _ else _) = if _ then _ else _
  by_cases h1 : c = 2 ∧ i = r
  · obtain ⟨rfl, rfl⟩ := h1
    by_cases h2 : j = n
    · subst h2
      rw [if_pos ⟨rfl, rfl, rfl⟩, if_pos ⟨rfl, rfl, h, Nat.lt_succ_self _⟩]
    · rw [if_neg (fun h => h2 h.2.2)]
      by_cases h3 : k ≤ j ∧ j < n
      · rw [if_pos ⟨rfl, rfl, h3.1, h3.2⟩, if_pos ⟨rfl, rfl, h3.1, by omega⟩]
      · rw [if_neg (fun h => h3 ⟨h.2.2.1, h.2.2.2⟩), if_neg (fun h => h3 ⟨h.2.2.1, by have := h.2.2.2; omega⟩)]
  · rw [if_neg (fun h => h1 ⟨h.1, h.2.1⟩), if_neg (fun h => h1 ⟨h.1, h.2.1⟩), if_neg (fun h => h1 ⟨h.1, h.2.1⟩)]
theorem za_Pid (S : za_S) (c i j : Nat) (v : Option Nat) (h : S.2 c i j = v) : za_P S c i j v = S := by
  refine Prod.ext rfl ?_
  funext c' i' j'
  show (if _ then _ else _) = _
  split
  next h1 => obtain ⟨rfl, rfl, rfl⟩ := h1; exact h.symm
  next => rfl
theorem za_Nid (S : za_S) (c i j v : Nat) (h : S.1 c i j = v) : za_N S c i j v = S := by
  refine Prod.ext ?_ rfl
  funext c' i' j'
  show (if _ then _ else _) = _
  split
  next h1 => obtain ⟨rfl, rfl, rfl⟩ := h1; exact h.symm
  next => rfl
/-- person p goes out of room r, where it has place k (its own field apart) -/
def zs_out (S : za_S) (r p k : Nat) : za_S :=
  za_P (za_N (za_P (za_N (zs_sh S r k (S.1 5 r 0 - 1)) 5 r 0 (S.1 5 r 0 - 1)) 3 r 0 (if S.2 3 r 0 = some p then none else S.2 3 r 0)) 6 r 0 (if S.2 4 r 0 = some p then 0 else S.1 6 r 0)) 4 r 0 (if S.2 4 r 0 = some p then none else S.2 4 r 0)
def zs_in (S : za_S) (r p : Nat) : za_S := za_N (za_P S 2 r (S.1 5 r 0) (some p)) 5 r 0 (S.1 5 r 0 + 1)
/-- the loudest one among the first n of room r -/
def zs_loud (S : za_S) (r : Nat) : Nat → Option Nat
  | 0 => none
  | i + 1 => match S.2 2 r i with
    | none => zs_loud S r i
    | some p => match zs_loud S r i with
      | none => some p
      | some q => if S.1 3 q 0 < S.1 3 p 0 then some p else some q
def zs_cand (S : za_S) (r : Nat) : Option Nat := match zs_loud S r (S.1 5 r 0) with
  | none => none
  | some p => if 10 ≤ S.1 3 p 0 then some p else none
def zs_end (S : za_S) (r : Nat) : za_S := za_N (za_P S 4 r 0 none) 6 r 0 0
/-- is the candidate louder by 5 than the speaker -/
def zs_lt (S : za_S) (r : Nat) (o : Option Nat) : Bool := match o, S.2 3 r 0 with
  | some p, some q => decide (S.1 3 q 0 + 5 ≤ S.1 3 p 0)
  | _, _ => false
def zs_chn (S : za_S) (r : Nat) : Nat := if zs_cand S r = S.2 4 r 0 then S.1 6 r 0 + 1 else 1
/-- what a tick does to the speaker of room r; was there a turn? -/
def zs_pt (S : za_S) (r : Nat) : za_S × Bool :=
  if S.2 3 r 0 = none then (za_P (zs_end S r) 3 r 0 (zs_cand S r), (zs_cand S r).isSome)
  else if zs_lt S r (zs_cand S r) = false then (zs_end S r, false)
  else if zs_chn S r < 3 then (za_P (za_N S 6 r 0 (zs_chn S r)) 4 r 0 (zs_cand S r), false)
  else (zs_end (za_P (za_P (za_N S 6 r 0 (zs_chn S r)) 4 r 0 (zs_cand S r)) 3 r 0 (zs_cand S r)) r, true)

def zs_B (X : za_S) : Prop := ∀ c i j, X.1 c i j < 2 ^ 30
theorem zs_N_B {X : za_S} (h : zs_B X) {c i j v : Nat} (hv : v < 2 ^ 30) : zs_B (za_N X c i j v) := by
  intro c' i' j'
  rw [za_N1]
  split
  · exact hv
  · exact h _ _ _
theorem zs_P_B {X : za_S} (h : zs_B X) (c i j : Nat) (v : Option Nat) : zs_B (za_P X c i j v) := h
theorem zs_app_B {X : za_S} (h : zs_B X) (o : Option Nat) (v : Nat) : zs_B (zs_app X o v) := by
  unfold zs_app
  split
  · exact h
  · split
    next hq => exact zs_N_B (zs_P_B h _ _ _ _) (by have := hq.2; omega)
    next => exact h
theorem zs_take_B {S X : za_S} (h : zs_B X) (o : Option Nat) {ly : Nat} (hl : ly < 2 ^ 30) : zs_B (zs_take S X o ly) := by
  unfold zs_take
  split
  · exact h
  · split
    · exact zs_N_B (zs_N_B h (Nat.lt_of_le_of_lt (Nat.sub_le _ _) (h _ _ _))) hl
    · exact h
theorem zs_row_B {X : za_S} (h : zs_B X) {c i n : Nat} {f : Nat → Nat} (hf : ∀ j, f j < 2 ^ 30) : zs_B (zs_row X c i n f) := by
  intro c' i' j'
  show (if _ then _ else _) < _
  split
  · exact hf _
  · exact h _ _ _
theorem zs_fr_N1 (X : za_S) (n : Nat) : zs_fr X (za_N X 1 0 0 n) := by
  refine ⟨fun i hi => ?_, ?_, ?_, ?_, ?_, ?_, ?_, ?_⟩ <;> (funext a; try funext b) <;> simp [za_N]
theorem zs_fr_N2 (X : za_S) (n : Nat) : zs_fr X (za_N X 2 0 0 n) := by
  refine ⟨fun i hi => ?_, ?_, ?_, ?_, ?_, ?_, ?_, ?_⟩ <;> (funext a; try funext b) <;> simp [za_N]
theorem zs_fr_row (X : za_S) (n : Nat) (f : Nat → Nat) : zs_fr X (zs_row X 0 10 n f) := by
  refine ⟨fun i hi => ?_, ?_, ?_, ?_, ?_, ?_, ?_, ?_⟩ <;> (funext a; try funext b) <;> simp_all [zs_row]
theorem zs_rest_mem {S : za_S} {v r : Nat} {P : Nat → Prop} (hf : ∀ x, zs_first S v r = some x → P x) (hw : ∀ i x, S.2 2 r i = some x → P x) : ∀ i x, x ∈ zs_rest S v r i → P x
  | 0, x, h => by
    unfold zs_rest zs_ap at h
    cases hq : zs_first S v r with
    | none => rw [hq] at h; cases h
    | some y =>
      rw [hq] at h
      simp only at h
      split at h
      · simp only [List.nil_append, List.mem_singleton] at h
        rw [h]
        exact hf y hq
      · cases h
  | i + 1, x, h => by
    unfold zs_rest at h
    split at h
    · exact zs_rest_mem hf hw i x h
    · unfold zs_ap at h
      cases hq : S.2 2 r i with
      | none => rw [hq] at h; exact zs_rest_mem hf hw i x h
      | some y =>
        rw [hq] at h
        simp only at h
        split at h
        · rcases List.mem_append.mp h with h | h
          · exact zs_rest_mem hf hw i x h
          · rw [List.mem_singleton.mp h]
            exact hw i y hq
        · exact zs_rest_mem hf hw i x h

def zs_V (S : za_S) (c0 c1 v : Nat) : Prop := v < c0 ∧ (∀ r, S.2 0 v 0 = some r → r < c1) ∧ (∀ r i x, S.2 2 r i = some x → x < c0) ∧ (∀ r x, S.2 0 v 0 = some r → zs_first S v r = some x → x < c0) ∧ (∀ r i, S.2 0 v 0 = some r → i ≤ S.1 5 r 0 → (zs_rest S v r i).length < 10) ∧ (∀ r, S.2 0 v 0 = some r → S.1 5 r 0 ≤ 10) ∧ c0 ≤ 10
theorem zs_V.L {S : za_S} {c0 c1 v : Nat} (h : zs_V S c0 c1 v) : ∀ x, x ∈ zs_ln S v → x < c0 ∧ x < 10 := by
  intro x hx
  obtain ⟨h1, h2, h3, h4, h5, h6, h7⟩ := h
  have : x < c0 := by
    unfold zs_ln at hx
    split at hx
    · cases hx
    next r hr => exact zs_rest_mem (P := fun x => x < c0) (fun y hy => h4 r y hr hy) (fun i y hy => h3 r i y hy) _ x hx
  exact ⟨this, by omega⟩
theorem zs_V.len {S : za_S} {c0 c1 v : Nat} (h : zs_V S c0 c1 v) : (zs_ln S v).length ≤ 10 := by
  obtain ⟨h1, h2, h3, h4, h5, h6, h7⟩ := h
  unfold zs_ln
  split
  · exact Nat.zero_le _
  next r hr => exact Nat.le_of_lt (h5 r _ hr (Nat.le_refl _))
theorem zs_sc_hd {X : za_S} {L : List Nat} {w : zs_W} (h : zs_sc X L w) : (if 0 < X.1 1 0 0 ∧ 0 < 10 then X.2 0 0 0 else none) = L[0]? := by
  rw [h.1]
  cases L with
  | nil => rfl
  | cons x L => exact (if_pos ⟨Nat.succ_pos _, by decide⟩).trans (h.2.1 0 (Nat.succ_pos _))
theorem zs_sc_take {S X : za_S} {L : List Nat} {w : zs_W} (h : zs_sc X L w) (hL : ∀ x, x ∈ L → x < 10) (ly : Nat) : zs_sc (zs_take S X (L[0]?) ly) L (zs_hd S ly L w) := by
  cases L with
  | nil => exact h
  | cons x L => exact zs_take_sc h (hL x List.mem_cons_self) ly
theorem zs_hd_mem {L : List Nat} {x : Nat} (h : L[0]? = some x) : x ∈ L := List.mem_of_getElem? h
