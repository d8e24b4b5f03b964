theorem frmax : ∀ N, N < 61 → ∀ D, D < 17 → (if (0 : Int32) < nI N - nI D then nI N - nI D else 0) = nI (N - D) := by decide +kernel
theorem lshl1 : ∀ F, F < 61 → ((1 : Int64) <<< ((nI F).toInt64 &&& 63)) - 1 = lN (2 ^ F - 1) := by decide +kernel
theorem gcdC_ne (a b : Int64) : ¬ gcdC a b = 0 := by
  unfold gcdC
  intro h
  split at h
  · exact absurd h (by decide)
  · rename_i h1
    rw [h] at h1
    exact h1 (by decide)
theorem rng60 {n : Int32} (h1 : ¬ n < 1) (h2 : n ≤ 60) : ∃ N, 1 ≤ N ∧ N ≤ 60 ∧ n = nI N := by
  rw [Int32.lt_iff_toInt_lt] at h1
  rw [Int32.le_iff_toInt_le] at h2
  have e1 : (1 : Int32).toInt = 1 := by decide
  have e2 : (60 : Int32).toInt = 60 := by decide
  rcases pk_ix n (n := 61) (by omega) with h9 | h9 | ⟨j, hj, rfl⟩
  · rw [Int32.lt_iff_toInt_lt, Int32.toInt_zero] at h9; omega
  · rw [Int32.le_iff_toInt_le, nI_toInt (by omega)] at h9; omega
  · rw [nI_toInt (by omega)] at h1; exact ⟨j, by omega, by omega, rfl⟩
theorem rng60' {N : Nat} (h1 : 1 ≤ N) (h2 : N ≤ 60) : ¬ nI N < 1 ∧ nI N ≤ 60 := by
  rw [Int32.lt_iff_toInt_lt, Int32.le_iff_toInt_le, nI_toInt (by omega)]
  have e1 : (1 : Int32).toInt = 1 := by decide
  have e2 : (60 : Int32).toInt = 60 := by decide
  omega
theorem nn_of {x : Int32} (h : ¬ x < 0) : ∃ k : Nat, k < 2 ^ 31 ∧ x = nI k := nI_of h
def cnC (stg : Int32) (pt : Nat → Option Nat) (pd : Nat → Pat) (j : Nat) : Int32 := match j with
  | 0 => nI (cntP pt pd 24)
  | 1 => nI (cntS pt pd 24)
  | 2 => cntC pt pd 24
  | 3 => stg
  | _ => bcnt (orF pt pd (-1) 24)
theorem mn23 (t : Nat) (h : t < 2 ^ 31) : (if nI 23 < nI t then nI 23 else nI t) = nI (min t 23) := by
  by_cases h1 : 23 < t
  · rw [if_pos (nI_lt h1 h), Nat.min_eq_right (by omega)]
  · rw [if_neg (nI_nlt (by omega) (by omega)), Nat.min_eq_left (by omega)]
