def okP (pt : Nat → Option Nat) (pd : Nat → Pat) (n : Int32) (j : Nat) : Prop := j < 24 ∧ n = nI j ∧ (prN pt pd j).isSome = true
theorem prI_some {pt : Nat → Option Nat} {pd : Nat → Pat} {n : Int32} {a : Nat} (h : prI pt pd n = some a) : ∃ j, j < 24 ∧ n = nI j ∧ pt j = some a ∧ pgn (pd j) = 0 := by
  rcases pk_ix n (n := 24) (by omega) with h9 | h9 | ⟨j, hj, rfl⟩
  · simp [prI, h9] at h
  · have : ¬ n < nI 24 := by rw [Int32.lt_iff_toInt_lt]; rw [Int32.le_iff_toInt_le] at h9; omega
    simp [prI, this] at h
  · rw [prI_nat _ _ hj] at h
    exact ⟨j, hj, rfl, prN_some h.symm⟩
theorem prI_none {pt : Nat → Option Nat} {pd : Nat → Pat} {n : Int32} (h : prI pt pd n = none) : ∀ j, ¬ okP pt pd n j := by
  intro j ⟨hj, hn, hs⟩
  subst hn
  rw [prI_nat _ _ hj] at h
  rw [h] at hs
  cases hs
theorem okP_of {pt : Nat → Option Nat} {pd : Nat → Pat} {n : Int32} {a j : Nat} (hj : j < 24) (hn : n = nI j) (hp : pt j = some a) (hg : pgn (pd j) = 0) : okP pt pd n j := ⟨hj, hn, by simp [prN, hp, hg]⟩
def cntF (pt : Nat → Option Nat) (pd : Nat → Pat) (b : Int32) (n : Nat) : Nat := itr (fun k a => if (prN pt pd k).isSome ∧ ¬ pfa (pd k) &&& b = 0 then a + 1 else a) 0 n
def sgC (stg tp fk : Int32) (C E : Nat) (pt : Nat → Option Nat) (pd : Nat → Pat) (f n : Nat) : Int32 := itr (fun k a => if (prN pt pd (f + k)).isSome then tkC stg tp C E (bitsC stg tp fk C E (pd (f + k)) &&& (pmk (pd (f + k)) ^^^ (-1))) a E else a) 0 n
def shI (bits : Int32) (k : Nat) (b : Int64) (n : Nat) : Int64 := itr (fun j a => if (bits &&& plC (nI k) (nI j) = 0) ↔ (bits &&& plC (nI k) (nI (j + 1)) = 0) then a else a + (nI (j + 1)).toInt64) b n
def shC (bits : Int32) (E : Nat) (n : Nat) : Int64 := itr (fun k a => shI bits k a (E - 1)) 0 n
def frC (D n : Nat) : Nat := n - D
