def zl_lim (k : Nat) : Nat := if k = 8 then 12000 else 2000
def zl_len (k n : Nat) : Nat := if n ≤ 16 then 16 else if n ≤ 32 then 32 else if n ≤ 64 then 64 else if n ≤ 128 then 128 else if n ≤ 256 then 256 else if n ≤ 512 then 512 else if n ≤ 1024 then 1024 else if k = 8 then (if n ≤ 2048 then 2048 else if n ≤ 4096 then 4096 else if n ≤ 8192 then 8192 else 12000) else 2000
def zl_sl (k n : Nat) : Nat := if n ≤ 16 then 0 else if n ≤ 32 then 32 else if n ≤ 64 then 96 else if n ≤ 128 then 224 else if n ≤ 256 then 480 else if n ≤ 512 then 992 else if n ≤ 1024 then 2016 else if k = 8 then (if n ≤ 2048 then 4064 else if n ≤ 4096 then 8160 else if n ≤ 8192 then 16352 else 28352) else 4016
def zl_ce (k n : Nat) : Nat := if n ≤ 16 then 0 else if n ≤ 32 then 1 else if n ≤ 64 then 2 else if n ≤ 128 then 3 else if n ≤ 256 then 4 else if n ≤ 512 then 5 else if n ≤ 1024 then 6 else if k = 8 then (if n ≤ 2048 then 7 else if n ≤ 4096 then 8 else if n ≤ 8192 then 9 else 10) else 7
theorem zl_r0 {k n : Nat} (h2 : n ≤ 16) : zl_len k n = 16 ∧ zl_sl k n = 0 ∧ zl_ce k n = 0 := by
  refine ⟨?_, ?_, ?_⟩
  · unfold zl_len
    rw [if_pos h2]
  · unfold zl_sl
    rw [if_pos h2]
  · unfold zl_ce
    rw [if_pos h2]
theorem zl_r1 {k n : Nat} (h1 : 16 < n) (h2 : n ≤ 32) : zl_len k n = 32 ∧ zl_sl k n = 32 ∧ zl_ce k n = 1 := by
  refine ⟨?_, ?_, ?_⟩
  · unfold zl_len
    rw [if_neg (by omega : ¬ n ≤ 16), if_pos h2]
  · unfold zl_sl
    rw [if_neg (by omega : ¬ n ≤ 16), if_pos h2]
  · unfold zl_ce
    rw [if_neg (by omega : ¬ n ≤ 16), if_pos h2]
theorem zl_r2 {k n : Nat} (h1 : 32 < n) (h2 : n ≤ 64) : zl_len k n = 64 ∧ zl_sl k n = 96 ∧ zl_ce k n = 2 := by
  refine ⟨?_, ?_, ?_⟩
  · unfold zl_len
    rw [if_neg (by omega : ¬ n ≤ 16), if_neg (by omega : ¬ n ≤ 32), if_pos h2]
  · unfold zl_sl
    rw [if_neg (by omega : ¬ n ≤ 16), if_neg (by omega : ¬ n ≤ 32), if_pos h2]
  · unfold zl_ce
    rw [if_neg (by omega : ¬ n ≤ 16), if_neg (by omega : ¬ n ≤ 32), if_pos h2]
theorem zl_r3 {k n : Nat} (h1 : 64 < n) (h2 : n ≤ 128) : zl_len k n = 128 ∧ zl_sl k n = 224 ∧ zl_ce k n = 3 := by
  refine ⟨?_, ?_, ?_⟩
  · unfold zl_len
    rw [if_neg (by omega : ¬ n ≤ 16), if_neg (by omega : ¬ n ≤ 32), if_neg (by omega : ¬ n ≤ 64), if_pos h2]
  · unfold zl_sl
    rw [if_neg (by omega : ¬ n ≤ 16), if_neg (by omega : ¬ n ≤ 32), if_neg (by omega : ¬ n ≤ 64), if_pos h2]
  · unfold zl_ce
    rw [if_neg (by omega : ¬ n ≤ 16), if_neg (by omega : ¬ n ≤ 32), if_neg (by omega : ¬ n ≤ 64), if_pos h2]
theorem zl_r4 {k n : Nat} (h1 : 128 < n) (h2 : n ≤ 256) : zl_len k n = 256 ∧ zl_sl k n = 480 ∧ zl_ce k n = 4 := by
  refine ⟨?_, ?_, ?_⟩
  · unfold zl_len
    rw [if_neg (by omega : ¬ n ≤ 16), if_neg (by omega : ¬ n ≤ 32), if_neg (by omega : ¬ n ≤ 64), if_neg (by omega : ¬ n ≤ 128), if_pos h2]
  · unfold zl_sl
    rw [if_neg (by omega : ¬ n ≤ 16), if_neg (by omega : ¬ n ≤ 32), if_neg (by omega : ¬ n ≤ 64), if_neg (by omega : ¬ n ≤ 128), if_pos h2]
  · unfold zl_ce
    rw [if_neg (by omega : ¬ n ≤ 16), if_neg (by omega : ¬ n ≤ 32), if_neg (by omega : ¬ n ≤ 64), if_neg (by omega : ¬ n ≤ 128), if_pos h2]
theorem zl_r5 {k n : Nat} (h1 : 256 < n) (h2 : n ≤ 512) : zl_len k n = 512 ∧ zl_sl k n = 992 ∧ zl_ce k n = 5 := by
  refine ⟨?_, ?_, ?_⟩
  · unfold zl_len
    rw [if_neg (by omega : ¬ n ≤ 16), if_neg (by omega : ¬ n ≤ 32), if_neg (by omega : ¬ n ≤ 64), if_neg (by omega : ¬ n ≤ 128), if_neg (by omega : ¬ n ≤ 256), if_pos h2]
  · unfold zl_sl
    rw [if_neg (by omega : ¬ n ≤ 16), if_neg (by omega : ¬ n ≤ 32), if_neg (by omega : ¬ n ≤ 64), if_neg (by omega : ¬ n ≤ 128), if_neg (by omega : ¬ n ≤ 256), if_pos h2]
  · unfold zl_ce
    rw [if_neg (by omega : ¬ n ≤ 16), if_neg (by omega : ¬ n ≤ 32), if_neg (by omega : ¬ n ≤ 64), if_neg (by omega : ¬ n ≤ 128), if_neg (by omega : ¬ n ≤ 256), if_pos h2]
theorem zl_r6 {k n : Nat} (h1 : 512 < n) (h2 : n ≤ 1024) : zl_len k n = 1024 ∧ zl_sl k n = 2016 ∧ zl_ce k n = 6 := by
  refine ⟨?_, ?_, ?_⟩
  · unfold zl_len
    rw [if_neg (by omega : ¬ n ≤ 16), if_neg (by omega : ¬ n ≤ 32), if_neg (by omega : ¬ n ≤ 64), if_neg (by omega : ¬ n ≤ 128), if_neg (by omega : ¬ n ≤ 256), if_neg (by omega : ¬ n ≤ 512), if_pos h2]
  · unfold zl_sl
    rw [if_neg (by omega : ¬ n ≤ 16), if_neg (by omega : ¬ n ≤ 32), if_neg (by omega : ¬ n ≤ 64), if_neg (by omega : ¬ n ≤ 128), if_neg (by omega : ¬ n ≤ 256), if_neg (by omega : ¬ n ≤ 512), if_pos h2]
  · unfold zl_ce
    rw [if_neg (by omega : ¬ n ≤ 16), if_neg (by omega : ¬ n ≤ 32), if_neg (by omega : ¬ n ≤ 64), if_neg (by omega : ¬ n ≤ 128), if_neg (by omega : ¬ n ≤ 256), if_neg (by omega : ¬ n ≤ 512), if_pos h2]
theorem zl_r8_0 {k n : Nat} (h1 : 1024 < n) (h2 : n ≤ 2048) (hk : k = 8) : zl_len k n = 2048 ∧ zl_sl k n = 4064 ∧ zl_ce k n = 7 := by
  refine ⟨?_, ?_, ?_⟩
  · unfold zl_len
    rw [if_neg (by omega : ¬ n ≤ 16), if_neg (by omega : ¬ n ≤ 32), if_neg (by omega : ¬ n ≤ 64), if_neg (by omega : ¬ n ≤ 128), if_neg (by omega : ¬ n ≤ 256), if_neg (by omega : ¬ n ≤ 512), if_neg (by omega : ¬ n ≤ 1024), if_pos hk, if_pos h2]
  · unfold zl_sl
    rw [if_neg (by omega : ¬ n ≤ 16), if_neg (by omega : ¬ n ≤ 32), if_neg (by omega : ¬ n ≤ 64), if_neg (by omega : ¬ n ≤ 128), if_neg (by omega : ¬ n ≤ 256), if_neg (by omega : ¬ n ≤ 512), if_neg (by omega : ¬ n ≤ 1024), if_pos hk, if_pos h2]
  · unfold zl_ce
    rw [if_neg (by omega : ¬ n ≤ 16), if_neg (by omega : ¬ n ≤ 32), if_neg (by omega : ¬ n ≤ 64), if_neg (by omega : ¬ n ≤ 128), if_neg (by omega : ¬ n ≤ 256), if_neg (by omega : ¬ n ≤ 512), if_neg (by omega : ¬ n ≤ 1024), if_pos hk, if_pos h2]
theorem zl_r8_1 {k n : Nat} (h1 : 2048 < n) (h2 : n ≤ 4096) (hk : k = 8) : zl_len k n = 4096 ∧ zl_sl k n = 8160 ∧ zl_ce k n = 8 := by
  refine ⟨?_, ?_, ?_⟩
  · unfold zl_len
    rw [if_neg (by omega : ¬ n ≤ 16), if_neg (by omega : ¬ n ≤ 32), if_neg (by omega : ¬ n ≤ 64), if_neg (by omega : ¬ n ≤ 128), if_neg (by omega : ¬ n ≤ 256), if_neg (by omega : ¬ n ≤ 512), if_neg (by omega : ¬ n ≤ 1024), if_pos hk, if_neg (by omega : ¬ n ≤ 2048), if_pos h2]
  · unfold zl_sl
    rw [if_neg (by omega : ¬ n ≤ 16), if_neg (by omega : ¬ n ≤ 32), if_neg (by omega : ¬ n ≤ 64), if_neg (by omega : ¬ n ≤ 128), if_neg (by omega : ¬ n ≤ 256), if_neg (by omega : ¬ n ≤ 512), if_neg (by omega : ¬ n ≤ 1024), if_pos hk, if_neg (by omega : ¬ n ≤ 2048), if_pos h2]
  · unfold zl_ce
    rw [if_neg (by omega : ¬ n ≤ 16), if_neg (by omega : ¬ n ≤ 32), if_neg (by omega : ¬ n ≤ 64), if_neg (by omega : ¬ n ≤ 128), if_neg (by omega : ¬ n ≤ 256), if_neg (by omega : ¬ n ≤ 512), if_neg (by omega : ¬ n ≤ 1024), if_pos hk, if_neg (by omega : ¬ n ≤ 2048), if_pos h2]
theorem zl_r8_2 {k n : Nat} (h1 : 4096 < n) (h2 : n ≤ 8192) (hk : k = 8) : zl_len k n = 8192 ∧ zl_sl k n = 16352 ∧ zl_ce k n = 9 := by
  refine ⟨?_, ?_, ?_⟩
  · unfold zl_len
    rw [if_neg (by omega : ¬ n ≤ 16), if_neg (by omega : ¬ n ≤ 32), if_neg (by omega : ¬ n ≤ 64), if_neg (by omega : ¬ n ≤ 128), if_neg (by omega : ¬ n ≤ 256), if_neg (by omega : ¬ n ≤ 512), if_neg (by omega : ¬ n ≤ 1024), if_pos hk, if_neg (by omega : ¬ n ≤ 2048), if_neg (by omega : ¬ n ≤ 4096), if_pos h2]
  · unfold zl_sl
    rw [if_neg (by omega : ¬ n ≤ 16), if_neg (by omega : ¬ n ≤ 32), if_neg (by omega : ¬ n ≤ 64), if_neg (by omega : ¬ n ≤ 128), if_neg (by omega : ¬ n ≤ 256), if_neg (by omega : ¬ n ≤ 512), if_neg (by omega : ¬ n ≤ 1024), if_pos hk, if_neg (by omega : ¬ n ≤ 2048), if_neg (by omega : ¬ n ≤ 4096), if_pos h2]
  · unfold zl_ce
    rw [if_neg (by omega : ¬ n ≤ 16), if_neg (by omega : ¬ n ≤ 32), if_neg (by omega : ¬ n ≤ 64), if_neg (by omega : ¬ n ≤ 128), if_neg (by omega : ¬ n ≤ 256), if_neg (by omega : ¬ n ≤ 512), if_neg (by omega : ¬ n ≤ 1024), if_pos hk, if_neg (by omega : ¬ n ≤ 2048), if_neg (by omega : ¬ n ≤ 4096), if_pos h2]
theorem zl_r8_e {k n : Nat} (h1 : 8192 < n) (h2 : n ≤ 12000) (hk : k = 8) : zl_len k n = 12000 ∧ zl_sl k n = 28352 ∧ zl_ce k n = 10 := by
  refine ⟨?_, ?_, ?_⟩
  · unfold zl_len
    rw [if_neg (by omega : ¬ n ≤ 16), if_neg (by omega : ¬ n ≤ 32), if_neg (by omega : ¬ n ≤ 64), if_neg (by omega : ¬ n ≤ 128), if_neg (by omega : ¬ n ≤ 256), if_neg (by omega : ¬ n ≤ 512), if_neg (by omega : ¬ n ≤ 1024), if_pos hk, if_neg (by omega : ¬ n ≤ 2048), if_neg (by omega : ¬ n ≤ 4096), if_neg (by omega : ¬ n ≤ 8192)]
  · unfold zl_sl
    rw [if_neg (by omega : ¬ n ≤ 16), if_neg (by omega : ¬ n ≤ 32), if_neg (by omega : ¬ n ≤ 64), if_neg (by omega : ¬ n ≤ 128), if_neg (by omega : ¬ n ≤ 256), if_neg (by omega : ¬ n ≤ 512), if_neg (by omega : ¬ n ≤ 1024), if_pos hk, if_neg (by omega : ¬ n ≤ 2048), if_neg (by omega : ¬ n ≤ 4096), if_neg (by omega : ¬ n ≤ 8192)]
  · unfold zl_ce
    rw [if_neg (by omega : ¬ n ≤ 16), if_neg (by omega : ¬ n ≤ 32), if_neg (by omega : ¬ n ≤ 64), if_neg (by omega : ¬ n ≤ 128), if_neg (by omega : ¬ n ≤ 256), if_neg (by omega : ¬ n ≤ 512), if_neg (by omega : ¬ n ≤ 1024), if_pos hk, if_neg (by omega : ¬ n ≤ 2048), if_neg (by omega : ¬ n ≤ 4096), if_neg (by omega : ¬ n ≤ 8192)]
theorem zl_rn_e {k n : Nat} (h1 : 1024 < n) (h2 : n ≤ 2000) (hk : k ≠ 8) : zl_len k n = 2000 ∧ zl_sl k n = 4016 ∧ zl_ce k n = 7 := by
  refine ⟨?_, ?_, ?_⟩
  · unfold zl_len
    rw [if_neg (by omega : ¬ n ≤ 16), if_neg (by omega : ¬ n ≤ 32), if_neg (by omega : ¬ n ≤ 64), if_neg (by omega : ¬ n ≤ 128), if_neg (by omega : ¬ n ≤ 256), if_neg (by omega : ¬ n ≤ 512), if_neg (by omega : ¬ n ≤ 1024), if_neg hk]
  · unfold zl_sl
    rw [if_neg (by omega : ¬ n ≤ 16), if_neg (by omega : ¬ n ≤ 32), if_neg (by omega : ¬ n ≤ 64), if_neg (by omega : ¬ n ≤ 128), if_neg (by omega : ¬ n ≤ 256), if_neg (by omega : ¬ n ≤ 512), if_neg (by omega : ¬ n ≤ 1024), if_neg hk]
  · unfold zl_ce
    rw [if_neg (by omega : ¬ n ≤ 16), if_neg (by omega : ¬ n ≤ 32), if_neg (by omega : ¬ n ≤ 64), if_neg (by omega : ¬ n ≤ 128), if_neg (by omega : ¬ n ≤ 256), if_neg (by omega : ¬ n ≤ 512), if_neg (by omega : ¬ n ≤ 1024), if_neg hk]
theorem zl_step {k n : Nat} (h : n < zl_lim k) : n ≤ zl_len k n ∧ 16 ≤ zl_len k n ∧ zl_len k n ≤ zl_lim k ∧ zl_len k (n + 1) ≤ zl_lim k ∧ n + 1 ≤ zl_len k (n + 1) ∧ zl_len k n ≤ zl_len k (n + 1) ∧
    (n = zl_len k n → zl_len k n < zl_len k (n + 1) ∧ (2 * n < zl_lim k → zl_len k (n + 1) = 2 * n) ∧ (zl_lim k ≤ 2 * n → zl_len k (n + 1) = zl_lim k) ∧ zl_sl k (n + 1) = zl_sl k n + zl_len k (n + 1) ∧ zl_ce k (n + 1) = zl_ce k n + 1) ∧
    (n ≠ zl_len k n → zl_len k (n + 1) = zl_len k n ∧ zl_sl k (n + 1) = zl_sl k n ∧ zl_ce k (n + 1) = zl_ce k n) := by
  have fin : ∀ {L s q L1 s1 q1 li : Nat}, zl_lim k = li → zl_len k n = L ∧ zl_sl k n = s ∧ zl_ce k n = q → zl_len k (n + 1) = L1 ∧ zl_sl k (n + 1) = s1 ∧ zl_ce k (n + 1) = q1 → (n ≤ L ∧ 16 ≤ L ∧ L ≤ li ∧ L1 ≤ li ∧ n + 1 ≤ L1 ∧ L ≤ L1 ∧ (n = L → L < L1 ∧ (2 * n < li → L1 = 2 * n) ∧ (li ≤ 2 * n → L1 = li) ∧ s1 = s + L1 ∧ q1 = q + 1) ∧ (n ≠ L → L1 = L ∧ s1 = s ∧ q1 = q)) → _ := fun {L s q L1 s1 q1 li} e ⟨a1, a2, a3⟩ ⟨b1, b2, b3⟩ z => by
    subst a1 a2 a3 b1 b2 b3 e
    exact z
  by_cases hk : k = 8
  · have e : zl_lim k = 12000 := if_pos hk
    rw [e] at h
    by_cases g0 : n < 16
    · exact fin e (zl_r0 (by omega)) (zl_r0 (by omega)) (by omega)
    by_cases f0 : n = 16
    · exact fin e (zl_r0 (by omega)) (zl_r1 (by omega) (by omega)) (by omega)
    by_cases g1 : n < 32
    · exact fin e (zl_r1 (by omega) (by omega)) (zl_r1 (by omega) (by omega)) (by omega)
    by_cases f1 : n = 32
    · exact fin e (zl_r1 (by omega) (by omega)) (zl_r2 (by omega) (by omega)) (by omega)
    by_cases g2 : n < 64
    · exact fin e (zl_r2 (by omega) (by omega)) (zl_r2 (by omega) (by omega)) (by omega)
    by_cases f2 : n = 64
    · exact fin e (zl_r2 (by omega) (by omega)) (zl_r3 (by omega) (by omega)) (by omega)
    by_cases g3 : n < 128
    · exact fin e (zl_r3 (by omega) (by omega)) (zl_r3 (by omega) (by omega)) (by omega)
    by_cases f3 : n = 128
    · exact fin e (zl_r3 (by omega) (by omega)) (zl_r4 (by omega) (by omega)) (by omega)
    by_cases g4 : n < 256
    · exact fin e (zl_r4 (by omega) (by omega)) (zl_r4 (by omega) (by omega)) (by omega)
    by_cases f4 : n = 256
    · exact fin e (zl_r4 (by omega) (by omega)) (zl_r5 (by omega) (by omega)) (by omega)
    by_cases g5 : n < 512
    · exact fin e (zl_r5 (by omega) (by omega)) (zl_r5 (by omega) (by omega)) (by omega)
    by_cases f5 : n = 512
    · exact fin e (zl_r5 (by omega) (by omega)) (zl_r6 (by omega) (by omega)) (by omega)
    by_cases g6 : n < 1024
    · exact fin e (zl_r6 (by omega) (by omega)) (zl_r6 (by omega) (by omega)) (by omega)
    by_cases f6 : n = 1024
    · exact fin e (zl_r6 (by omega) (by omega)) (zl_r8_0 (by omega) (by omega) hk) (by omega)
    by_cases g7 : n < 2048
    · exact fin e (zl_r8_0 (by omega) (by omega) hk) (zl_r8_0 (by omega) (by omega) hk) (by omega)
    by_cases f7 : n = 2048
    · exact fin e (zl_r8_0 (by omega) (by omega) hk) (zl_r8_1 (by omega) (by omega) hk) (by omega)
    by_cases g8 : n < 4096
    · exact fin e (zl_r8_1 (by omega) (by omega) hk) (zl_r8_1 (by omega) (by omega) hk) (by omega)
    by_cases f8 : n = 4096
    · exact fin e (zl_r8_1 (by omega) (by omega) hk) (zl_r8_2 (by omega) (by omega) hk) (by omega)
    by_cases g9 : n < 8192
    · exact fin e (zl_r8_2 (by omega) (by omega) hk) (zl_r8_2 (by omega) (by omega) hk) (by omega)
    by_cases f9 : n = 8192
    · exact fin e (zl_r8_2 (by omega) (by omega) hk) (zl_r8_e (by omega) (by omega) hk) (by omega)
    by_cases g10 : n < 12000
    · exact fin e (zl_r8_e (by omega) (by omega) hk) (zl_r8_e (by omega) (by omega) hk) (by omega)
    omega
  · have e : zl_lim k = 2000 := if_neg hk
    rw [e] at h
    by_cases g0 : n < 16
    · exact fin e (zl_r0 (by omega)) (zl_r0 (by omega)) (by omega)
    by_cases f0 : n = 16
    · exact fin e (zl_r0 (by omega)) (zl_r1 (by omega) (by omega)) (by omega)
    by_cases g1 : n < 32
    · exact fin e (zl_r1 (by omega) (by omega)) (zl_r1 (by omega) (by omega)) (by omega)
    by_cases f1 : n = 32
    · exact fin e (zl_r1 (by omega) (by omega)) (zl_r2 (by omega) (by omega)) (by omega)
    by_cases g2 : n < 64
    · exact fin e (zl_r2 (by omega) (by omega)) (zl_r2 (by omega) (by omega)) (by omega)
    by_cases f2 : n = 64
    · exact fin e (zl_r2 (by omega) (by omega)) (zl_r3 (by omega) (by omega)) (by omega)
    by_cases g3 : n < 128
    · exact fin e (zl_r3 (by omega) (by omega)) (zl_r3 (by omega) (by omega)) (by omega)
    by_cases f3 : n = 128
    · exact fin e (zl_r3 (by omega) (by omega)) (zl_r4 (by omega) (by omega)) (by omega)
    by_cases g4 : n < 256
    · exact fin e (zl_r4 (by omega) (by omega)) (zl_r4 (by omega) (by omega)) (by omega)
    by_cases f4 : n = 256
    · exact fin e (zl_r4 (by omega) (by omega)) (zl_r5 (by omega) (by omega)) (by omega)
    by_cases g5 : n < 512
    · exact fin e (zl_r5 (by omega) (by omega)) (zl_r5 (by omega) (by omega)) (by omega)
    by_cases f5 : n = 512
    · exact fin e (zl_r5 (by omega) (by omega)) (zl_r6 (by omega) (by omega)) (by omega)
    by_cases g6 : n < 1024
    · exact fin e (zl_r6 (by omega) (by omega)) (zl_r6 (by omega) (by omega)) (by omega)
    by_cases f6 : n = 1024
    · exact fin e (zl_r6 (by omega) (by omega)) (zl_rn_e (by omega) (by omega) hk) (by omega)
    by_cases g7 : n < 2000
    · exact fin e (zl_rn_e (by omega) (by omega) hk) (zl_rn_e (by omega) (by omega) hk) (by omega)
    omega
theorem zl_0 (k : Nat) : zl_len k 0 = 16 ∧ zl_sl k 0 = 0 ∧ zl_ce k 0 = 0 := zl_r0 (Nat.zero_le _)

section
variable {p : Program} {l : Launch} {e : Env} {R : Room} {s : State} {m : MethodId} {args : Array Value} {below : List Frame} {meth : Method} {c : Code} {H : Heap} {locs : List Loc} {cells slots : Nat} {Q : State → Prop} {cc : ByteArray} {pc : Nat} {ls : Array Slot} {rest : List Value} {E : za_E} {b : Nat} {H0 : Heap}
theorem zc_Sr {y : MethodName} {bytes : ByteArray} {maxL nL mc ms n index : Nat} {ret : Option FieldType} {ws : List Cond} {rm : Room} {Ts : List Cond} {own : String} {As st : List Value} {post : za_T → Prop} {B : za_T → Nat → State → Prop} (hK : za_K E s) (hZ : za_Z b s s.heap) (hb0 : b ≤ s.heap.size) {u : za_T} (hG : za_G E b u H) (hS : va_S (za_A b) s.heap H locs) (hexec : p.tables.exec = Jvm.exec) (hb : c.code = cc) (hml : c.maxLocals = nL) (hown : s.vm.findClass own = some m.cls) (hts : ∀ w ∈ Ts, w.before args s = true) (hM : Met l y ws rm (za_Pc E b u As) (va_Qr (S := za_T) post B (za_A b)) mc ms (za_A b)) (cw : CallB R s args own index y bytes maxL ret ws rm mc ms n ∧ (Cond.static y).before args s = true) (hn : As.length = n) {lv : List (Nat × Value)} (hl : lv_has ls nL lv) (hst : st = As.reverse ++ rest) (hW : (rest.map fun v => v.category).sum ≤ 8) (hdg : decode cc pc = .ok (.invokestatic index, 3)) (hf : cells + mc ≤ R.cells ∧ slots + ms ≤ R.slots)
    (kk : ∀ (u' : za_T) (ra : Nat) (t : State) (H1 : Heap) (locs1 : List Loc), t.heap = H1 → post u' → B u' ra t → va_S (za_A b) s.heap H1 locs1 → W p l e R s m args below meth c H1 locs1 (cells + mc) (slots + ms) Q (F0 m (pc + 3) ls (.ref ra :: rest))) : W p l e R s m args below meth c H locs cells slots Q (F0 m pc ls st) := by
  subst hst
  exact va_callr (va_runS (As := As) (rest := rest) ⟨hexec, hb, hml, hown, hts⟩ hM cw ⟨za_blind, za_pre hK hZ hb0 hG hS _⟩ rfl hn hl.1 rfl (lv_room hW) hdg hf) hS (fun _ _ h => h) (fun _ h => h) (fun u ra t H1 locs1 ht hvm hw hB hz1 hk1 hS1 => kk u ra t H1 locs1 ht hw hB hS1)
/-- a cell that is not ours yet -/
def za_new (E : za_E) (u : za_T) (b a : Nat) (x : va_E) (H : Heap) : Prop := b ≤ a ∧ (∀ κ i, za_x u κ i → za_a u κ i ≠ a) ∧ va_at E.1 vwCl (a, x) H
/-- a row's array is another one -/
theorem za_grow {ad : za_Ad} {S X T Y : za_S} {o : Int64} {d : UInt64} {H2 : Heap} (h : za_G E b (ad, S, X, T, Y, o, d) H) {k a L : Nat} (hk : k < X.1 5 2 0 ∨ k = 8) {f : Nat → Int32} (hN : za_new E (ad, S, X, T, Y, o, d) b a (.inl (E.2 0, L, .inl f)) H) (hf : f = fun j => za_enc (S.2 5 k j))
    (h1 : va_at E.1 vwCl (ad 12 k, .inr (7, [.int (nI (if k = 8 then 12000 else 2000)), .ref a, .int (nI (S.1 7 k 0))])) H2) (oq : ∀ q, q ≠ ad 12 k → H2[q]? = H[q]?) : za_G E b (ad, S, za_N (za_P X 6 k 0 (some a)) 4 k 0 L, T, Y, o, d) H2 := by
  subst hf
  obtain ⟨n1, n2, n3⟩ := hN
  have hxx : ∀ κ i, za_x (ad, S, za_N (za_P X 6 k 0 (some a)) 4 k 0 L, T, Y, o, d) κ i = za_x (ad, S, X, T, Y, o, d) κ i := fun _ _ => rfl
  have haa : ∀ κ i, ¬ (κ = 13 ∧ i = k) → za_a (ad, S, za_N (za_P X 6 k 0 (some a)) 4 k 0 L, T, Y, o, d) κ i = za_a (ad, S, X, T, Y, o, d) κ i := by
    intro κ i hne
    by_cases h13 : κ = 13
    · have : i ≠ k := fun q => hne ⟨h13, q⟩
      subst h13
      show ((if _ then _ else _ : Option Nat)).getD 0 = _
      rw [if_neg (fun q => this q.2.1)]
      rfl
    · rw [za_a_ne h13, za_a_ne h13]
  have hak : za_a (ad, S, za_N (za_P X 6 k 0 (some a)) 4 k 0 L, T, Y, o, d) 13 k = a := by
    show ((if _ then _ else _ : Option Nat)).getD 0 = _
    rw [if_pos ⟨rfl, rfl, rfl⟩]
    rfl
  have h12 : za_x (ad, S, X, T, Y, o, d) 12 k := hk
  have hcell : ∀ κ i, za_x (ad, S, X, T, Y, o, d) κ i → ¬ (κ = 13 ∧ i = k) → ¬ (κ = 12 ∧ i = k) → za_cell E (ad, S, za_N (za_P X 6 k 0 (some a)) 4 k 0 L, T, Y, o, d) κ i = za_cell E (ad, S, X, T, Y, o, d) κ i := by
    intro κ i hx g1 g2
    refine za_k (P := fun κ => ¬ (κ = 13 ∧ i = k) → ¬ (κ = 12 ∧ i = k) → za_cell E (ad, S, za_N (za_P X 6 k 0 (some a)) 4 k 0 L, T, Y, o, d) κ i = za_cell E (ad, S, X, T, Y, o, d) κ i) (za_ex34 hx) (fun _ _ => rfl) (fun _ _ => rfl) (fun _ _ => rfl) (fun _ _ => rfl) (fun _ _ => rfl) (fun _ _ => rfl) (fun _ _ => rfl) (fun _ _ => rfl) (fun _ _ => rfl) (fun _ _ => rfl) (fun _ _ => rfl) (fun _ _ => rfl) (fun g1 g2 => by have h3 : ¬ i = k := fun q => g2 ⟨rfl, q⟩; simp [za_cell, za_N, za_P, h3]) (fun g1 g2 => by have h3 : ¬ i = k := fun q => g1 ⟨rfl, q⟩; simp [za_cell, za_N, za_P, h3]) (fun _ _ => rfl) g1 g2
  refine ⟨fun κ i hx => ?_, fun k1 i1 k2 i2 a1 a2 e => ?_⟩
  · rw [hxx] at hx
    by_cases g1 : κ = 13 ∧ i = k
    · obtain ⟨rfl, rfl⟩ := g1
      rw [hak]
      refine ⟨?_, n1⟩
      have e : za_cell E (ad, S, za_N (za_P X 6 i 0 (some a)) 4 i 0 L, T, Y, o, d) 13 i = .inl (E.2 0, L, .inl (fun j => za_enc (S.2 5 i j))) := by simp [za_cell, za_N]
      rw [e]
      exact n3.kept (oq _ (fun q => n2 12 i hk q.symm))
    · rw [haa κ i g1]
      refine ⟨?_, (h.1 κ i hx).2⟩
      by_cases g2 : κ = 12 ∧ i = k
      · obtain ⟨rfl, rfl⟩ := g2
        have e : za_cell E (ad, S, za_N (za_P X 6 i 0 (some a)) 4 i 0 L, T, Y, o, d) 12 i = .inr (7, [.int (nI (if i = 8 then 12000 else 2000)), .ref a, .int (nI (S.1 7 i 0))]) := by simp [za_cell, za_P, za_N]
        rw [e]
        exact h1
      · rw [hcell κ i hx g1 g2]
        exact ((h.1 κ i hx).1).kept (oq _ fun q => g2 (h.2 κ i 12 k hx hk q))
  · rw [hxx] at a1 a2
    by_cases g1 : k1 = 13 ∧ i1 = k
    · by_cases g2 : k2 = 13 ∧ i2 = k
      · exact ⟨g1.1.trans g2.1.symm, g1.2.trans g2.2.symm⟩
      · rw [haa k2 i2 g2, g1.1, g1.2, hak] at e
        exact absurd e.symm (n2 k2 i2 a2)
    · rw [haa k1 i1 g1] at e
      by_cases g2 : k2 = 13 ∧ i2 = k
      · rw [g2.1, g2.2, hak] at e
        exact absurd e (n2 k1 i1 a1)
      · rw [haa k2 i2 g2] at e
        exact h.2 k1 i1 k2 i2 a1 a2 e
/-- a field of a cell is written; what the heap is then -/
theorem za_put0 (hexec : p.tables.exec = Jvm.exec) (hb : c.code = cc) {own ref C : String} {T : u_T} {N ci index : Nat} {Ts : List Cond} (hts : ∀ w ∈ Ts, w.before args s = true) (hin : ∀ w ∈ u_ws C T N, w ∈ Ts) (ty0 : Nat → FieldType) (hty : ∀ k, k < N → parseFieldDescriptor (T k).2.2.1 = some (ty0 k)) (hnm : ∀ a, a < N → ∀ b, b < N → a ≠ b → (T a).2.1 ≠ (T b).2.1) (hown : s.vm.findClass own = some m.cls) (hK : za_K E s) {a : Nat} {fs : List Value} (hat : va_at E.1 vwCl (a, .inr (ci, fs)) H) (hba : b ≤ a) (hS0 : va_S (za_A b) H0 H locs) (hcl : vwCl[ci]? = some (C, T, N)) (k : Nat) (hk : k < N) (hlink : (Cond.fieldLink own index ref (T k).2.1 (T k).2.2.1).before args s = true) (hsame : ∀ x, s.fieldFound? (T k).1 (T k).2.1 (T k).2.2.1 = some x → s.fieldFound? ref (T k).2.1 (T k).2.2.1 = some x) (hfin : (T k).2.2.2 = false) {ty : FieldType} {v : Value} (hd : parseFieldDescriptor (T k).2.2.1 = some ty) (hn : narrow ty v = v) (hfit : fits ty v = true) (hl : k < fs.length)
    (hdg : decode cc pc = .ok (.putfield index, 3))
    (kk : ∀ (H1 : Heap) (locs1 : List Loc), va_at E.1 vwCl (a, .inr (ci, fs.set k v)) H1 → H1.size = H.size → (∀ q, q ≠ a → H1[q]? = H[q]?) → va_S (za_A b) H0 H1 locs1 → W p l e R s m args below meth c H1 locs1 cells slots Q (F0 m (pc + 3) ls rest)) : W p l e R s m args below meth c H locs cells slots Q (F0 m pc ls (v :: .ref a :: rest)) := by
  have hap := va_apart (own := own) hts hin ty0 hty hnm hK hcl
  obtain ⟨r, h1, cell, q1, q2, q3, q4⟩ := hat
  have hr : r = (C, T, N) := Option.some.inj (h1.symm.trans hcl)
  subst hr
  obtain ⟨hS, hfc, kC, hkC, hkind⟩ := hK.1 ci _ hcl
  obtain ⟨cf, kf, fi, f, hi, hsl⟩ := hS k hk
  have hlay := hts _ (hin _ (u_in_lay hk))
  unfold u_lay at hlay
  rw [if_neg (by rw [hfin]; decide)] at hlay
  have hst := (u_facts hfc hkC (u_lays hts hin hk) hi).1
  have h6 := u_store hfc hkC hkind hlay hi hd hn hfit
  refine W.putK hexec hb (f := f) ⟨hown, hlink, ⟨_, _, _, hsame _ hi⟩, hst⟩ (by rw [q2]; exact h6) q1 q3 (by rw [hsl]; exact k2_hasslot (q4 k hk)) rfl rfl hdg fun H' e1 e2 e3 => ?_
  rw [hsl] at e1 ⊢
  exact kk H' _ ⟨_, hcl, t_OB.to (V := updV (vp_V fs) k v) ⟨_, e1, q2, q3, t_set q4 hap hk v⟩ (fun j _ => vp_updV_set hl v j)⟩ e2 e3 (hS0.put e2 e3 hba)
end

set_option maxRecDepth 100000 in
set_option maxHeartbeats 4000000 in
theorem c_J7_copyOf_59c91 (l : Launch) {E : za_E} {b : Nat} {ad : za_Ad} {S X T Y : za_S} {ow : Int64} {dw : UInt64} (k L2 : Nat) (hk : k < X.1 5 2 0 ∨ k = 8) (h1 : X.1 4 k 0 < L2) (h2 : L2 ≤ 12000) (hz : ∀ j, X.1 4 k 0 ≤ j → S.2 5 k j = some 0) : Met l yJ7_copyOf_59c91 wsJ7_copyOf_59c91 ({ frames := 1, cells := 1, slots := L2, locals := 40 } : Room) (za_Pc E b (ad, S, X, T, Y, ow, dw) [.ref ((X.2 6 k 0).getD 0), .int (nI L2)])
    (va_Qr (S := za_T) (fun u => u = (ad, S, X, T, Y, ow, dw)) (fun u a t => za_G E b u t.heap ∧ za_new E u b a (.inl (E.2 0, L2, .inl (fun j => za_enc (S.2 5 k j)))) t.heap) (za_A b)) 1 L2 (za_A b) := by
  refine zm_met (ccm := cJ7_copyOf_59c91) (maxL := 3) (ret := (some (.array .int))) (ws' := _) (own := RJ7) (lv := [(0, .ref ((X.2 6 k 0).getD 0)), (1, .int (nI L2))]) (by decide) rfl rfl rfl (by simp [lg_sl, Value.category]) ?_
  intro pg en s m below meth c hx hb hml hr hown hts hlocks hK hZ hb0 hG hS ls hl
  have t1 := hts (.arrayClass .int) (by decide +kernel)
  have t2 := hts (.methodLink RJ7 304 Lib.Math.min.name) (by decide +kernel)
  have t3 := hts (.static Lib.Math.min.name) (by decide +kernel)
  have t4 := hts (.initialized "java/lang/Math") (by decide +kernel)
  have t5 := hts (.code Lib.Math.min.name Lib.Math.min.code 2 (some .int)) (by decide +kernel)
  have t6 := hts (.methodLink RJ7 150 arraycopyName) (by decide +kernel)
  have t7 := hts (.native arraycopyName) (by decide +kernel)
  have t8 := hts (.static arraycopyName) (by decide +kernel)
  have t9 := hts (.initialized "java/lang/System") (by decide +kernel)
  have hL31 : X.1 4 k 0 < 2 ^ 31 := by omega
  refine lv_iload_n hx hb dJ7_copyOf_59c91_0 rfl (lv_at hl 1 rfl) ?_
  refine lv_aload_n hx hb dJ7_copyOf_59c91_1 rfl (lv_at hl 0 rfl) ?_
  refine zl_NU hx hb hK hG k hk dJ7_copyOf_59c91_2 ?_
  refine zb_icmp_ne (x := L2) (y := X.1 4 k 0) (tgt := 14) hx hb (by omega) (by omega) dJ7_copyOf_59c91_3 (by decide) (fun c_3 => ?_) (fun c_3 => absurd c_3 (by omega))
  refine lv_iload_n hx hb dJ7_copyOf_59c91_14 rfl (lv_at hl 1 rfl) ?_
  refine va_newaK (atype := .int) (N := L2) hx hb t1 rfl dJ7_copyOf_59c91_15 rfl (nI_pos (by omega)) (nI_clamp (by omega)) (by show L2 * 4 ≤ _; omega) (by show 0 + 1 ≤ 1; omega) (by show 0 + L2 ≤ L2; omega) rfl ?_
  intro H1 cA e1 z1 o1 hAr hNm
  have cE : cA = E.2 0 := Option.some.inj (hNm.symm.trans (hK.2 0 _ rfl).2)
  subst cE
  have hG1 : za_G E b (ad, S, X, T, Y, ow, dw) H1 := hG.kept (fun q h1 _ => o1 q h1)
  have hS1 : va_S (za_A b) s.heap H1 [] := ⟨by omega, fun q g1 _ => o1 q g1, fun _ h => by cases h⟩
  have hlt : ∀ κ i, za_x (ad, S, X, T, Y, ow, dw) κ i → za_a (ad, S, X, T, Y, ow, dw) κ i < s.heap.size := fun κ i hi => (hG.at hi).lt
  have h13 : (X.2 6 k 0).getD 0 < s.heap.size := hlt 13 k hk
  refine W.eq (g2 := F0 m 17 ls [.ref s.heap.size]) rfl ?_
  refine lv_astore_n (lv' := [(2, .ref s.heap.size), (0, .ref ((X.2 6 k 0).getD 0)), (1, .int (nI L2))]) hx hb dJ7_copyOf_59c91_17 rfl hl (by decide) rfl (fun ls hl => ?_)
  refine lv_aload_n hx hb dJ7_copyOf_59c91_18 rfl (lv_at hl 1 rfl) ?_
  refine zb_iconst (n := 0) hx hb dJ7_copyOf_59c91_19 (by decide) ?_
  refine lv_aload_n hx hb dJ7_copyOf_59c91_20 rfl (lv_at hl 0 rfl) ?_
  refine zb_iconst (n := 0) hx hb dJ7_copyOf_59c91_21 (by decide) ?_
  refine lv_aload_n hx hb dJ7_copyOf_59c91_22 rfl (lv_at hl 1 rfl) ?_
  refine zl_NU hx hb hK hG1 k hk dJ7_copyOf_59c91_23 ?_
  refine lv_iload_n hx hb dJ7_copyOf_59c91_24 rfl (lv_at hl 2 rfl) ?_
  refine va_mmin hx hb (by rw [hml]; first | exact hl.1 | exact hl.1.symm) hown t2 t3 t4 t5 (Nat.le_refl 1) (Nat.le_of_ble_eq_true rfl) (by show 0 + 1 ≤ 1; omega) (by show 0 + L2 ≤ L2; omega) dJ7_copyOf_59c91_25 ?_
  have em : (if nI L2 < nI (X.1 4 k 0) then nI L2 else nI (X.1 4 k 0)) = nI (X.1 4 k 0) := if_neg (by rw [nI_ltI (by omega) (by omega)]; omega)
  rw [em]
  have c0 : (nI 0).toNatClampNeg = 0 := nI_clamp (by omega)
  have cL : (nI (X.1 4 k 0)).toNatClampNeg = X.1 4 k 0 := nI_clamp (by omega)
  have hD0 : va_D (fun q => q = (X.2 6 k 0).getD 0 ∨ q = s.heap.size) [((X.2 6 k 0).getD 0, .inl (E.2 0, X.1 4 k 0, .inl (fun j => za_enc (S.2 5 k j)))), (s.heap.size, .inl (E.2 0, L2, .inl (fun _ => 0)))] := by
    refine ⟨fun i j p' q' hp hq he => ?_, fun i q hq => ?_⟩
    · match i, j, hp, hq with
      | 0, 0, _, _ => rfl
      | 1, 1, _, _ => rfl
      | 0, 1, hp, hq => cases hp; cases hq; exact absurd he (Nat.ne_of_lt h13)
      | 1, 0, hp, hq => cases hp; cases hq; exact absurd he.symm (Nat.ne_of_lt h13)
      | i + 2, _, hp, _ => cases hp
      | _, j + 2, _, hq => cases hq
    · match i, hq with
      | 0, hq => cases hq; exact Or.inl rfl
      | 1, hq => cases hq; exact Or.inr rfl
      | i + 2, hq => cases hq
  refine va_copyi hx hb (by rw [hml]; first | exact hl.1 | exact hl.1.symm) hown t6 t7 t8 t9 hK (ws := [((X.2 6 k 0).getD 0, .inl (E.2 0, X.1 4 k 0, .inl (fun j => za_enc (S.2 5 k j)))), (s.heap.size, .inl (E.2 0, L2, .inl (fun _ => 0)))]) (A := fun q => q = (X.2 6 k 0).getD 0 ∨ q = s.heap.size) (H0 := H1)
    (fun i q hq => by
      match i, hq with
      | 0, hq => cases hq; exact hG1.at (κ := 13) (i := k) hk
      | 1, hq => cases hq; exact e1
      | i + 2, hq => cases hq)
    hD0
    va_S.rf 0 1 0 0 rfl rfl rfl rfl rfl (nI_pos (by omega)) (nI_pos (by omega)) (nI_pos (by omega)) (by rw [c0, cL]; omega) (by rw [c0, cL]; omega) (fun _ _ => rfl) (Nat.le_refl 1) (Nat.le_of_ble_eq_true rfl) dJ7_copyOf_59c91_28 ?_
  intro H2 locs2 hP2 hD2 hS2
  have a13 : va_at E.1 vwCl ((X.2 6 k 0).getD 0, .inl (E.2 0, X.1 4 k 0, .inl (fun j => za_enc (S.2 5 k j)))) H2 := hP2 0 _ rfl
  have aN := hP2 1 _ rfl
  have ef : va_cpy (fun j => za_enc (S.2 5 k j)) (fun _ => 0) (nI 0).toNatClampNeg (nI 0).toNatClampNeg (nI (X.1 4 k 0)).toNatClampNeg = fun j => za_enc (S.2 5 k j) := by
    funext j
    unfold va_cpy
    rw [c0, cL]
    by_cases hj : j < X.1 4 k 0
    · rw [if_pos ⟨Nat.zero_le _, by omega⟩]
      exact congrArg (fun z => za_enc (S.2 5 k z)) (by omega)
    · rw [if_neg (by omega), hz j (by omega)]
      exact nI_0.symm
  rw [ef] at aN
  have hG2 : za_G E b (ad, S, X, T, Y, ow, dw) H2 := by
    refine ⟨fun κ i hi => ⟨?_, (hG1.1 κ i hi).2⟩, hG1.2⟩
    by_cases e : κ = 13 ∧ i = k
    · obtain ⟨rfl, rfl⟩ := e
      exact a13
    · have g1 := hlt κ i hi
      refine ((hG1.1 κ i hi).1).kept (hS2.2.1 _ (by show za_a _ κ i < H1.size; omega) ?_)
      rintro (q | q)
      · exact e (hG1.2 κ i 13 k hi hk q)
      · exact absurd q (Nat.ne_of_lt g1)
  have hb13 : b ≤ (X.2 6 k 0).getD 0 := (hG.1 13 k hk).2
  have hS' : va_S (za_A b) s.heap H2 locs2 := ⟨Nat.le_trans hS1.1 hS2.1, fun q g1 g2 => by
      rw [hS2.2.1 q (Nat.lt_of_lt_of_le g1 hS1.1) (by
        rintro (z | z)
        · exact g2 (by rw [z]; exact hb13)
        · exact absurd z (Nat.ne_of_lt g1))]
      exact o1 q g1, fun q hq => by
      rcases hS2.2.2 q hq with z | z
      · show b ≤ q.base
        rw [z]
        exact hb13
      · show b ≤ q.base
        rw [z]
        exact hb0⟩
  refine lv_aload_n hx hb dJ7_copyOf_59c91_31 rfl (lv_at hl 0 rfl) ?_
  exact W.widen (by omega) (by omega) (W.aret hx hb hr (Or.inr ⟨_, rfl⟩) (Or.inr ⟨_, rfl⟩) (fun t ht hW => ⟨⟨(ad, S, X, T, Y, ow, dw), _, rfl, rfl, by rw [ht]; exact hG2, by rw [ht]; exact ⟨hb0, fun κ i hi => Nat.ne_of_lt (hlt κ i hi), aN⟩⟩, hS'.F ht⟩) hS'.2.2 dJ7_copyOf_59c91_32 hlocks)
set_option maxRecDepth 100000 in
set_option maxHeartbeats 4000000 in
theorem c_X5_grow (l : Launch) {E : za_E} {b : Nat} {ad : za_Ad} {S X T Y : za_S} {ow : Int64} {dw : UInt64} (k : Nat) (hk : k < X.1 5 2 0 ∨ k = 8) (hn : X.1 4 k 0 = zl_len k (S.1 7 k 0)) (hfull : S.1 7 k 0 = X.1 4 k 0) (hlim : S.1 7 k 0 < zl_lim k) (hz : ∀ j, S.1 7 k 0 ≤ j → S.2 5 k j = some 0) : Met l yX5_grow wsX5_grow ({ frames := 2, cells := 1, slots := zl_len k (S.1 7 k 0 + 1), locals := 62 } : Room) (za_Pc E b (ad, S, X, T, Y, ow, dw) [.ref (ad 12 k)])
    (za_Qv E b (fun u => ∃ a9, u = (ad, S, za_N (za_P X 6 k 0 (some a9)) 4 k 0 (zl_len k (S.1 7 k 0 + 1)), T, Y, ow, dw))) 1 (zl_len k (S.1 7 k 0 + 1)) (za_A b) := by
  refine zm_met (ccm := cX5_grow) (maxL := 2) (ret := none) (ws' := _) (own := RX5) (lv := [(0, .ref (ad 12 k))]) (by decide) rfl rfl rfl (by simp [lg_sl, Value.category]) ?_
  intro pg en s m below meth c hx hb hml hr hown hts hlocks hK hZ hb0 hG hS ls hl
  have t2 := hts (.methodLink RX5 25 Lib.Math.min.name) (by decide +kernel)
  have t3 := hts (.static Lib.Math.min.name) (by decide +kernel)
  have t4 := hts (.initialized "java/lang/Math") (by decide +kernel)
  have t5 := hts (.code Lib.Math.min.name Lib.Math.min.code 2 (some .int)) (by decide +kernel)
  have hf9 := hts (.fieldLink RX5 9 "VideoBridge$Row" "numbers" "[I") (by decide +kernel)
  have hf15 := hts (.fieldLink RX5 15 "VideoBridge$Row" "limit" "I") (by decide +kernel)
  have hinX5 : ∀ w ∈ u_ws RX5 TX5 3, w ∈ wsX5_grow := by decide +kernel
  obtain ⟨s1, s2, s3, s4, s5, s6, s7, -⟩ := zl_step hlim
  obtain ⟨r1, r2, r3, -, -⟩ := s7 (by omega)
  have hli : zl_lim k ≤ 12000 := by unfold zl_lim; split <;> omega
  have hli' : (if k = 8 then 12000 else 2000) = zl_lim k := rfl
  refine zb_iconst (n := 2) hx hb dX5_grow_0 (by decide) ?_
  refine lv_aload_n hx hb dX5_grow_1 rfl (lv_at hl 0 rfl) ?_
  refine zg_RW_numbers hx hb hts hinX5 hown hf9 hK hG k hk dX5_grow_2 ?_
  refine zl_NU hx hb hK hG k hk dX5_grow_5 ?_
  refine zb_imul hx hb dX5_grow_6 ?_
  refine lv_aload_n hx hb dX5_grow_7 rfl (lv_at hl 0 rfl) ?_
  refine zg_RW_limit hx hb hts hinX5 hown hf15 hK hG k hk dX5_grow_8 ?_
  refine va_mmin hx hb (by rw [hml]; first | exact hl.1 | exact hl.1.symm) hown t2 t3 t4 t5 (Nat.le_of_ble_eq_true rfl) (Nat.le_of_ble_eq_true rfl) (Nat.zero_le _) (Nat.zero_le _) dX5_grow_11 ?_
  have em : (if nI (if k = 8 then 12000 else 2000) < nI (2 * X.1 4 k 0) then nI (if k = 8 then 12000 else 2000) else nI (2 * X.1 4 k 0)) = nI (zl_len k (S.1 7 k 0 + 1)) := by
    rw [hli']
    by_cases q : nI (zl_lim k) < nI (2 * X.1 4 k 0)
    · rw [if_pos q]
      rw [nI_ltI (by omega) (by omega)] at q
      rw [r3 (by omega)]
    · rw [if_neg q]
      rw [nI_ltI (by omega) (by omega)] at q
      by_cases q2 : 2 * S.1 7 k 0 < zl_lim k
      · rw [r2 q2, hfull]
      · rw [r3 (by omega)]
        exact congrArg nI (by omega)
  rw [em]
  refine lv_istore_n (lv' := [(1, .int (nI (zl_len k (S.1 7 k 0 + 1)))), (0, .ref (ad 12 k))]) hx hb dX5_grow_14 rfl hl (by decide) rfl (fun ls hl => ?_)
  refine lv_iload_n hx hb dX5_grow_15 rfl (lv_at hl 0 rfl) ?_
  refine lv_aload_n hx hb dX5_grow_16 rfl (lv_at hl 1 rfl) ?_
  refine zg_RW_numbers hx hb hts hinX5 hown hf9 hK hG k hk dX5_grow_17 ?_
  refine zl_NU hx hb hK hG k hk dX5_grow_20 ?_
  refine zb_icmp_le (x := zl_len k (S.1 7 k 0 + 1)) (y := X.1 4 k 0) (tgt := 36) hx hb (by omega) (by omega) dX5_grow_21 (by decide) (fun c_21 => absurd c_21 (by omega)) (fun c_21 => ?_)
  refine lv_aload_n hx hb dX5_grow_24 rfl (lv_at hl 1 rfl) ?_
  refine lv_aload_n hx hb dX5_grow_25 rfl (lv_at hl 1 rfl) ?_
  refine zg_RW_numbers hx hb hts hinX5 hown hf9 hK hG k hk dX5_grow_26 ?_
  refine lv_iload_n hx hb dX5_grow_29 rfl (lv_at hl 0 rfl) ?_
  refine zc_Sr (As := [.ref ((X.2 6 k 0).getD 0), .int (nI (zl_len k (S.1 7 k 0 + 1)))]) (rest := [.ref (ad 12 k)]) hK hZ hb0 hG hS hx hb hml hown hts (c_J7_copyOf_59c91 l k (zl_len k (S.1 7 k 0 + 1)) hk (by omega) (by omega) (fun j hj => hz j (by omega))) (va_cwS 2 hts gX5_grow_J7_copyOf_59c91 rfl rfl rfl (by decide +kernel) ⟨Nat.le_of_ble_eq_true rfl, Nat.le_of_ble_eq_true rfl⟩) rfl hl rfl (Nat.le_of_ble_eq_true rfl) dX5_grow_30 ⟨Nat.le_of_eq (Nat.zero_add _), Nat.le_of_eq (Nat.zero_add _)⟩ (fun u9 ra t H1 locs1 ht hu hB hS1 => ?_)
  subst hu
  rw [ht] at hB
  obtain ⟨hG1, hN1⟩ := hB
  refine za_put0 hx hb hts hinX5 tyX5 tyX5_ok nmX5 hown hK (b := b) (hG1.at (κ := 12) (i := k) hk) (hG1.1 12 k hk).2 hS1 rfl 1 (by decide) hf9 (fun _ h => h) rfl (show parseFieldDescriptor _ = some (tyX5 1) by decide +kernel) rfl rfl (Nat.le_of_ble_eq_true rfl) dX5_grow_33 ?_
  intro H2 locs2 e1 e2 e3 hS2
  have hG2 := za_grow hG1 hk hN1 rfl e1 e3
  exact zm_vret hx hb hr hlocks hG2 hS2 (by omega) (by omega) ⟨_, rfl⟩ dX5_grow_36

/-- a number is put at a row's end -/
def zs_put (S : za_S) (k : Nat) (v : Option Nat) : za_S := za_N (za_P S 5 k (S.1 7 k 0) v) 7 k 0 (S.1 7 k 0 + 1)
/-- the class's own numbers then: a row's array may be another one -/
def zl_X (X X2 : za_S) (k L : Nat) : Prop := X2.1 4 k 0 = L ∧ (∀ c i j, ¬ (c = 4 ∧ i = k ∧ j = 0) → X2.1 c i j = X.1 c i j) ∧ (∀ c i j, ¬ (c = 6 ∧ i = k ∧ j = 0) → X2.2 c i j = X.2 c i j)
theorem zl_X_same {X : za_S} {k L : Nat} (h : X.1 4 k 0 = L) : zl_X X X k L := ⟨h, fun _ _ _ _ => rfl, fun _ _ _ _ => rfl⟩
theorem zl_X_grow (X : za_S) (k a L : Nat) : zl_X X (za_N (za_P X 6 k 0 (some a)) 4 k 0 L) k L := ⟨za_Ns _ _ _ _ _, fun _ _ _ h => if_neg h, fun _ _ _ h => if_neg h⟩
set_option maxRecDepth 100000 in
set_option maxHeartbeats 4000000 in
theorem c_X5_put (l : Launch) {E : za_E} {b : Nat} {ad : za_Ad} {S X T Y : za_S} {ow : Int64} {dw : UInt64} (k : Nat) (v : Option Nat) (hk : k < X.1 5 2 0 ∨ k = 8) (hn : X.1 4 k 0 = zl_len k (S.1 7 k 0)) (hlim : S.1 7 k 0 < zl_lim k) (hz : ∀ j, S.1 7 k 0 ≤ j → S.2 5 k j = some 0) : Met l yX5_put wsX5_put ({ frames := 3, cells := zl_ce k (S.1 7 k 0 + 1) - zl_ce k (S.1 7 k 0), slots := zl_sl k (S.1 7 k 0 + 1) - zl_sl k (S.1 7 k 0), locals := 83 } : Room) (za_Pc E b (ad, S, X, T, Y, ow, dw) [.ref (ad 12 k), .int (za_enc v)]) (za_Qv E b (fun u => ∃ X2, u = (ad, zs_put S k v, X2, T, Y, ow, dw) ∧ zl_X X X2 k (zl_len k (S.1 7 k 0 + 1)))) (zl_ce k (S.1 7 k 0 + 1) - zl_ce k (S.1 7 k 0)) (zl_sl k (S.1 7 k 0 + 1) - zl_sl k (S.1 7 k 0)) (za_A b) := by
  refine zm_met (ccm := cX5_put) (maxL := 2) (ret := none) (ws' := _) (own := RX5) (lv := [(0, .ref (ad 12 k)), (1, .int (za_enc v))]) (by decide) rfl rfl rfl (by simp [lg_sl, Value.category]) ?_
  intro pg en s m below meth c hx hb hml hr hown hts hlocks hK hZ hb0 hG hS ls hl
  have hf19 := hts (.fieldLink RX5 19 "VideoBridge$Row" "size" "I") (by decide +kernel)
  have hf9 := hts (.fieldLink RX5 9 "VideoBridge$Row" "numbers" "[I") (by decide +kernel)
  have hinX5 : ∀ w ∈ u_ws RX5 TX5 3, w ∈ wsX5_put := by decide +kernel
  skip
  obtain ⟨s1, s2, s3, s4, s5, s6, s7, s8⟩ := zl_step hlim
  have hli : zl_lim k ≤ 12000 := by unfold zl_lim; split <;> omega
  refine lv_aload_n hx hb dX5_put_0 rfl (lv_at hl 0 rfl) ?_
  refine zg_RW_size hx hb hts hinX5 hown hf19 hK hG k hk (n := S.1 7 k 0) rfl dX5_put_1 ?_
  refine lv_aload_n hx hb dX5_put_4 rfl (lv_at hl 0 rfl) ?_
  refine zg_RW_numbers hx hb hts hinX5 hown hf9 hK hG k hk dX5_put_5 ?_
  refine zl_NU hx hb hK hG k hk dX5_put_8 ?_
  refine zb_icmp_lt (x := S.1 7 k 0) (y := X.1 4 k 0) (tgt := 16) hx hb (by omega) (by omega) dX5_put_9 (by decide) (fun c_9 => ?_) (fun c_9 => ?_)
  · refine lv_aload_n hx hb dX5_put_16 rfl (lv_at hl 0 rfl) ?_
    refine zg_RW_size hx hb hts hinX5 hown hf19 hK hG k hk (n := S.1 7 k 0) rfl dX5_put_17 ?_
    refine zb_if_lt (x := S.1 7 k 0) (tgt := 55) hx hb (by omega) dX5_put_20 (by decide) ?_
    refine lv_aload_n hx hb dX5_put_23 rfl (lv_at hl 0 rfl) ?_
    refine zg_RW_size hx hb hts hinX5 hown hf19 hK hG k hk (n := S.1 7 k 0) rfl dX5_put_24 ?_
    refine lv_aload_n hx hb dX5_put_27 rfl (lv_at hl 0 rfl) ?_
    refine zg_RW_numbers hx hb hts hinX5 hown hf9 hK hG k hk dX5_put_28 ?_
    refine zl_NU hx hb hK hG k hk dX5_put_31 ?_
    refine zb_icmp_ge (x := S.1 7 k 0) (y := X.1 4 k 0) (tgt := 55) hx hb (by omega) (by omega) dX5_put_32 (by decide) (fun c_32 => ?_) (fun c_32 => ?_)
    · omega
    · refine lv_aload_n hx hb dX5_put_35 rfl (lv_at hl 0 rfl) ?_
      refine zg_RW_numbers hx hb hts hinX5 hown hf9 hK hG k hk dX5_put_36 ?_
      refine lv_aload_n hx hb dX5_put_39 rfl (lv_at hl 0 rfl) ?_
      refine zg_RW_size hx hb hts hinX5 hown hf19 hK hG k hk (n := S.1 7 k 0) rfl dX5_put_40 ?_
      refine lv_iload_n hx hb dX5_put_43 rfl (lv_at hl 1 rfl) ?_
      refine zst_NU hx hb hK hG k hk (by omega) hS (by omega) dX5_put_44 (fun H locs hG hS => ?_)
      refine lv_aload_n hx hb dX5_put_45 rfl (lv_at hl 0 rfl) ?_
      refine lv_dup hx hb dX5_put_46 rfl ?_
      refine zg_RW_size hx hb hts hinX5 hown hf19 hK hG k hk (n := S.1 7 k 0) rfl dX5_put_47 ?_
      refine zb_iconst (n := 1) hx hb dX5_put_50 (by decide) ?_
      refine zb_iadd hx hb dX5_put_51 ?_
      refine zp_RW_size hx hb hts hinX5 hown hf19 hS hK hG k hk dX5_put_52 (fun H locs hG hS => ?_)
      exact zm_vret hx hb hr hlocks hG hS (by omega) (by omega) ⟨_, rfl, by first | exact zl_X_grow _ _ _ _ | exact zl_X_same (by omega)⟩ dX5_put_55
  · refine lv_aload_n hx hb dX5_put_12 rfl (lv_at hl 0 rfl) ?_
    refine zc_Vv (As := []) (rest := []) hK hZ hb0 hG hS hx hb hml hown hts (c_X5_grow l k hk hn (by omega) hlim hz) (cwV 0 hts gX5_put_X5_grow rfl rfl rfl (by decide +kernel) ⟨Nat.le_of_ble_eq_true rfl, Nat.le_of_ble_eq_true rfl⟩) (za_recv (q := (RX5, TX5, 3)) hK hG 12 k (show k < X.1 5 2 0 ∨ k = 8 from hk) rfl rfl rfl) rfl hl rfl (Nat.le_of_ble_eq_true rfl) dX5_put_13 ⟨by have := s7 (by omega); show 0 + 1 ≤ zl_ce k (S.1 7 k 0 + 1) - zl_ce k (S.1 7 k 0); omega, by have := s7 (by omega); show 0 + zl_len k (S.1 7 k 0 + 1) ≤ zl_sl k (S.1 7 k 0 + 1) - zl_sl k (S.1 7 k 0); omega⟩ (fun u_13 H locs hp hG hS => ?_)
    obtain ⟨a9, rfl⟩ := hp
    obtain ⟨-, -, -, r4, r5⟩ := s7 (by omega)
    have hX4 : (za_N (za_P X 6 k 0 (some a9)) 4 k 0 (zl_len k (S.1 7 k 0 + 1))).1 4 k 0 = zl_len k (S.1 7 k 0 + 1) := za_Ns _ _ _ _ _
    refine lv_aload_n hx hb dX5_put_16 rfl (lv_at hl 0 rfl) ?_
    refine zg_RW_size hx hb hts hinX5 hown hf19 hK hG k hk (n := S.1 7 k 0) rfl dX5_put_17 ?_
    refine zb_if_lt (x := S.1 7 k 0) (tgt := 55) hx hb (by omega) dX5_put_20 (by decide) ?_
    refine lv_aload_n hx hb dX5_put_23 rfl (lv_at hl 0 rfl) ?_
    refine zg_RW_size hx hb hts hinX5 hown hf19 hK hG k hk (n := S.1 7 k 0) rfl dX5_put_24 ?_
    refine lv_aload_n hx hb dX5_put_27 rfl (lv_at hl 0 rfl) ?_
    refine zg_RW_numbers hx hb hts hinX5 hown hf9 hK hG k hk dX5_put_28 ?_
    refine zl_NU hx hb hK hG k hk dX5_put_31 ?_
    refine zb_icmp_ge (x := S.1 7 k 0) (y := (za_N (za_P X 6 k 0 (some a9)) 4 k 0 (zl_len k (S.1 7 k 0 + 1))).1 4 k 0) (tgt := 55) hx hb (by omega) (by omega) dX5_put_32 (by decide) (fun c_32 => ?_) (fun c_32 => ?_)
    · omega
    · refine lv_aload_n hx hb dX5_put_35 rfl (lv_at hl 0 rfl) ?_
      refine zg_RW_numbers hx hb hts hinX5 hown hf9 hK hG k hk dX5_put_36 ?_
      refine lv_aload_n hx hb dX5_put_39 rfl (lv_at hl 0 rfl) ?_
      refine zg_RW_size hx hb hts hinX5 hown hf19 hK hG k hk (n := S.1 7 k 0) rfl dX5_put_40 ?_
      refine lv_iload_n hx hb dX5_put_43 rfl (lv_at hl 1 rfl) ?_
      refine zst_NU hx hb hK hG k hk (by omega) hS (by omega) dX5_put_44 (fun H locs hG hS => ?_)
      refine lv_aload_n hx hb dX5_put_45 rfl (lv_at hl 0 rfl) ?_
      refine lv_dup hx hb dX5_put_46 rfl ?_
      refine zg_RW_size hx hb hts hinX5 hown hf19 hK hG k hk (n := S.1 7 k 0) rfl dX5_put_47 ?_
      refine zb_iconst (n := 1) hx hb dX5_put_50 (by decide) ?_
      refine zb_iadd hx hb dX5_put_51 ?_
      refine zp_RW_size hx hb hts hinX5 hown hf19 hS hK hG k hk dX5_put_52 (fun H locs hG hS => ?_)
      exact zm_vret hx hb hr hlocks hG hS (by omega) (by omega) ⟨_, rfl, by first | exact zl_X_grow _ _ _ _ | exact zl_X_same (by omega)⟩ dX5_put_55
