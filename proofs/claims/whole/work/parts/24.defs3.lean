theorem shl1 : ∀ D, D < 31 → (1 : Int32) <<< (nI D &&& 31) = nI (2 ^ D) := by decide +kernel
theorem lng1 : ∀ D, D < 31 → ((1 : Int32) <<< (nI D &&& 31)) - 1 = nI (2 ^ D - 1) := by decide +kernel
/-- the machine's states from stage 0 alone -/
def sqC (stg tp : Int32) (n : Nat) : Int32 := itr (fun _ a => stepC stg tp a) 1 n
def lcC (stg tp : Int32) (N : Nat) : Prop := (∀ j, 1 ≤ j → j < N → sqC stg tp j ≠ 1) ∧ sqC stg tp N = 1
def lbit (r : Int64) (i : Nat) : Int64 := (r >>> ((nI i).toInt64 &&& 63)) &&& 1
def redC (rw : Nat → Int64) : Nat → Int64 → Int64
  | 0, r => r
  | k + 1, r => redC rw k (if lbit r (k + 16) = 0 then r else r ^^^ rw (k + 16))
def keepC (row : Int64) (rw : Nat → Int64) : Nat → (Nat → Int64)
  | 0 => rw
  | k + 1 => if lbit row (k + 16) = 0 then keepC row rw k else vp_updL rw (k + 16) row
def gdC : Nat → Int64 → Int64 → Int64
  | 0, g, _ => g
  | n + 1, g, b => if b = 0 then g else gdC n b (g - g / b * b)
def gcdC (a b : Int64) : Int64 := if gdC 128 a b < 1 then 1 else gdC 128 a b
theorem ncC_dn {f : Nat → Int32} {ce E : Nat} {v : Int32} (h : dnS f (ce + 1) = v) (hv : ¬ v = -1) : v = ncC f ce E := by
  subst h; simp [ncC, hv]
theorem ncC_up {f : Nat → Int32} {ce E : Nat} {v : Int32} (h : dnS f (ce + 1) = -1) (h2 : upS f (ce + 1) (E - (ce + 1)) = v) (hv : ¬ v = -1) : v = ncC f ce E := by
  subst h2; simp [ncC, hv, h]
theorem ncC_no {f : Nat → Int32} {ce E : Nat} (h : dnS f (ce + 1) = -1) (h2 : upS f (ce + 1) (E - (ce + 1)) = -1) : 0 = ncC f ce E := by
  simp [ncC, h, h2]
theorem upS_s (f : Nat → Int32) {k E : Nat} (h : k < E) : upS f k (E - k) = if f k = -1 then upS f (k + 1) (E - (k + 1)) else f k := by
  obtain ⟨n, hn⟩ : ∃ n, E - k = n + 1 := ⟨E - k - 1, by omega⟩
  rw [hn, show E - (k + 1) = n by omega]
  rfl
