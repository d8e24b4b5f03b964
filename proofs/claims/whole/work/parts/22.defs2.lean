/-- a pattern's six numbers -/
abbrev Pat : Type := Int32 × Int32 × Int32 × Int32 × Int32 × Int32
def pca (q : Pat) : Int32 := q.1
def pva (q : Pat) : Int32 := q.2.1
def pmk (q : Pat) : Int32 := q.2.2.1
def pfa (q : Pat) : Int32 := q.2.2.2.1
def psd (q : Pat) : Int32 := q.2.2.2.2.1
def pgn (q : Pat) : Int32 := q.2.2.2.2.2
def pfs (q : Pat) : List Value := [.int (pca q), .int (pva q), .int (pmk q), .int (pfa q), .int (psd q), .int (pgn q)]
/-- the pattern with a number, where it is there and not gone -/
def prN (pt : Nat → Option Nat) (pd : Nat → Pat) (k : Nat) : Option Nat := match pt k with
  | none => none
  | some a => if pgn (pd k) = 0 then some a else none
def prI (pt : Nat → Option Nat) (pd : Nat → Pat) (x : Int32) : Option Nat := if x < 0 ∨ ¬ x < nI 24 then none else prN pt pd x.toNatClampNeg
theorem prI_nat (pt : Nat → Option Nat) (pd : Nat → Pat) {k : Nat} (h : k < 24) : prI pt pd (nI k) = prN pt pd k := by
  have h1 : ¬ nI k < 0 := nI_pos (by omega)
  have h2 : nI k < nI 24 := nI_lt h (by omega)
  simp [prI, h1, h2, nI_clamp (show k < 2 ^ 31 by omega)]
theorem prN_some {pt : Nat → Option Nat} {pd : Nat → Pat} {k a : Nat} (h : some a = prN pt pd k) : pt k = some a ∧ pgn (pd k) = 0 := by
  unfold prN at h
  split at h
  · cases h
  · rename_i b hb
    split at h
    · cases h; exact ⟨hb, by assumption⟩
    · cases h
/-- counters that go down -/
def dn : Nat → Int32
  | 0 => -1
  | j + 1 => nI j
theorem dn_pred (k : Nat) : nI k + (-1) = dn k := by
  cases k with
  | zero => rfl
  | succ k => exact pk_m1 k
def dnS (f : Nat → Int32) : Nat → Int32
  | 0 => -1
  | j + 1 => if f j = -1 then dnS f j else f j
def upS (f : Nat → Int32) (k : Nat) : Nat → Int32
  | 0 => -1
  | n + 1 => if f k = -1 then upS f (k + 1) n else f k
def ncC (f : Nat → Int32) (ce E : Nat) : Int32 := if dnS f (ce + 1) = -1 then (if upS f (ce + 1) (E - (ce + 1)) = -1 then 0 else upS f (ce + 1) (E - (ce + 1))) else dnS f (ce + 1)
def cntP (pt : Nat → Option Nat) (pd : Nat → Pat) (n : Nat) : Nat := itr (fun k a => if (prN pt pd k).isSome then a + 1 else a) 0 n
def cntS (pt : Nat → Option Nat) (pd : Nat → Pat) (n : Nat) : Nat := itr (fun k a => if (prN pt pd k).isSome ∧ psd (pd k) ≠ -1 then a + 1 else a) 0 n
def cntC (pt : Nat → Option Nat) (pd : Nat → Pat) (n : Nat) : Int32 := itr (fun k a => if (prN pt pd k).isSome then a + bcnt (pca (pd k)) else a) 0 n
def orF (pt : Nat → Option Nat) (pd : Nat → Pat) (x : Int32) (n : Nat) : Int32 := itr (fun k a => if (prN pt pd k).isSome ∧ nI k ≠ x then a ||| pfa (pd k) else a) 0 n
def fillI (f : Nat → Int32) (k : Nat) (E : Nat) (b : Int32) (n : Nat) : Int32 := itr (fun j a => if ncC f j E = 1 then a ||| plC (nI k) (nI j) else a) b n
def fillC (ca va : Int32) (E : Nat) (n : Nat) : Int32 := itr (fun k a => fillI (fun j => carC ca va (plC (nI k) (nI j))) k E a E) 0 n
def mkI (stg : Int32) (E t : Nat) (st b : Int32) (n : Nat) : Int32 := itr (fun k a => if st &&& ((1 : Int32) <<< (sarC stg (5 * nI k + 1) &&& 31)) = 0 then a else a ||| plC (nI k) (nI E - 1 - nI t)) b n
def mkC (stg tp : Int32) (C E : Nat) (sd : Int32) (n : Nat) : Int32 × Int32 := itr (fun t q => (mkI stg E t q.2 q.1 C, stepC stg tp q.2)) (0, sd) n
def makeC (stg tp : Int32) (C E : Nat) (sd : Int32) : Int32 := (mkC stg tp C E sd E).1
def tkI (stg : Int32) (E t : Nat) (bits st : Int32) (n : Nat) : Int32 := itr (fun k a => if bits &&& plC (nI k) (nI E - 1 - nI t) = 0 then a else a ^^^ ((1 : Int32) <<< (sarC stg (nI k) &&& 31))) st n
def tkC (stg tp : Int32) (C E : Nat) (bits st : Int32) (n : Nat) : Int32 := itr (fun t a => tkI stg E t bits (stepC stg tp a) C) st n
def bitsC (stg tp fk : Int32) (C E : Nat) (q : Pat) : Int32 := if psd q = -1 then (if fk = 1 then pva q ||| (pca q ^^^ (-1)) else if fk = 2 then fillC (pca q) (pva q) E C else pva q) else makeC stg tp C E (psd q)
