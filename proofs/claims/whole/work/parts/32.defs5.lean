def lsR (stg tp : Int32) (C E : Nat) (ca : Int32) (n : Nat) : Nat → Int64 := itr (fun t f => keepC (redC f 32 (rowC (makeC stg tp C E ((1 : Int32) <<< (nI t &&& 31)) &&& ca) ((1 : Int32) <<< (nI t &&& 31)))) f 32) (fun _ => 0) n
def lsC (stg tp : Int32) (C E D : Nat) (ca va : Int32) : Int32 := if celC (redC (lsR stg tp C E ca D) 32 (rowC va 0)) = 0 then (redC (lsR stg tp C E ca D) 32 (rowC va 0)).toInt32 else -1
def fgN (pt : Nat → Option Nat) (pd : Nat → Pat) (n : Nat) : Nat → Pat := itr (fun i Q => if (prN pt Q i).isSome then va_up Q i (qsd (Q i) (-1)) else Q) pd n
def drS (pt : Nat → Option Nat) : Nat → (Nat → Pat) → (Nat → Pat)
  | 0, P => P
  | k + 1, P => drS pt k (if (prN pt P k).isSome ∧ pfa (P k) &&& (orF pt P (nI k) 24 ^^^ (-1)) = 0 then va_up P k (qgn (P k) 1) else P)
def tkS (pt : Nat → Option Nat) (i k : Nat) (Q : Nat → Pat) : Nat → Pat := if (prN pt Q k).isSome ∧ ¬ gowC (pca (Q i)) (pva (Q i)) (pca (Q k)) (pva (Q k)) = 0 then va_up (va_up Q i (qtake (Q i) (Q k))) k (qgn (Q k) 1) else Q
def tkB (pt : Nat → Option Nat) (i : Nat) (pd : Nat → Pat) (n : Nat) : Nat → Pat := itr (fun m Q => tkS pt i (i + 1 + m) Q) pd n
def joinD (pt : Nat → Option Nat) (pd : Nat → Pat) (n : Nat) : Nat → Pat := itr (fun i Q => if (prN pt Q i).isSome then tkB pt i Q (23 - i) else Q) pd n
