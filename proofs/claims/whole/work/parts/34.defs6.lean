theorem patG_up1 {G : gh} {pt : Nat → Option Nat} {pd : Nat → Pat} (hpt : ∀ i a, i < 24 → pt i = some a → G a = some (.inr (3, pfs (pd i)))) (hj : ptInj pt) {a i : Nat} (hi : i < 24) (hp : pt i = some a) (q : Pat) : gup G a (.inr (3, pfs q)) = patG G pt (va_up pd i q) := by
  have h := patG_up (G := G) (pd := pd) hj hi hp q
  rw [patG_self hpt] at h
  exact h
theorem nI_pred1 {D : Nat} (h : 1 ≤ D) : nI D - 1 = nI (D - 1) := pk_sub (a := D) (b := 1) h
theorem rng16 {n : Int32} (h1 : ¬ n < 1) (h2 : n ≤ 16) : ∃ N, 1 ≤ N ∧ N ≤ 16 ∧ n = nI N := by
  rw [Int32.lt_iff_toInt_lt] at h1
  rw [Int32.le_iff_toInt_le] at h2
  have e1 : (1 : Int32).toInt = 1 := by decide
  have e2 : (16 : Int32).toInt = 16 := by decide
  rcases pk_ix n (n := 17) (by omega) with h9 | h9 | ⟨j, hj, rfl⟩
  · rw [Int32.lt_iff_toInt_lt, Int32.toInt_zero] at h9; omega
  · rw [Int32.le_iff_toInt_le, nI_toInt (by omega)] at h9; omega
  · rw [nI_toInt (by omega)] at h1; exact ⟨j, by omega, by omega, rfl⟩
theorem rng16' {N : Nat} (h1 : 1 ≤ N) (h2 : N ≤ 16) : ¬ nI N < 1 ∧ nI N ≤ 16 := by
  rw [Int32.lt_iff_toInt_lt, Int32.le_iff_toInt_le, nI_toInt (by omega)]
  have e1 : (1 : Int32).toInt = 1 := by decide
  have e2 : (16 : Int32).toInt = 16 := by decide
  omega
theorem rng2 {n : Int32} (h1 : ¬ n < 0) (h2 : n ≤ 2) : ∃ N, N < 3 ∧ n = nI N := by
  rw [Int32.le_iff_toInt_le] at h2
  have e2 : (2 : Int32).toInt = 2 := by decide
  rcases pk_ix n (n := 3) (by omega) with h9 | h9 | h9
  · exact absurd h9 h1
  · rw [Int32.le_iff_toInt_le, nI_toInt (by omega)] at h9; omega
  · exact h9
theorem rng2' {N : Nat} (h2 : N < 3) : nI N ≤ 2 := by
  rw [Int32.le_iff_toInt_le, nI_toInt (by omega)]
  have e2 : (2 : Int32).toInt = 2 := by decide
  omega
theorem rngD {n : Int32} {D : Nat} (hD : D < 2 ^ 31) (h1 : ¬ n < 0) (h2 : n < nI D) : ∃ k, k < D ∧ n = nI k := by
  rcases pk_ix n (n := D) hD with h9 | h9 | h9
  · exact absurd h9 h1
  · rw [Int32.le_iff_toInt_le] at h9; rw [Int32.lt_iff_toInt_lt] at h2; omega
  · exact h9
