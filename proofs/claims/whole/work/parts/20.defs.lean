/-! What the class's methods answer, as functions of numbers. -/
def bcnt (i : Int32) : Int32 :=
  let a := i - ((i.toUInt32 >>> ((1 : Int32).toUInt32 &&& Int32.toUInt32 31)).toInt32 &&& 1431655765)
  let b := (a &&& 858993459) + ((a.toUInt32 >>> ((2 : Int32).toUInt32 &&& Int32.toUInt32 31)).toInt32 &&& 858993459)
  let d := (b + (b.toUInt32 >>> ((4 : Int32).toUInt32 &&& Int32.toUInt32 31)).toInt32) &&& 252645135
  let f := d + (d.toUInt32 >>> ((8 : Int32).toUInt32 &&& Int32.toUInt32 31)).toInt32
  let g := f + (f.toUInt32 >>> ((16 : Int32).toUInt32 &&& Int32.toUInt32 31)).toInt32
  g &&& 63
def stepC (stg tp st : Int32) : Int32 := ((st <<< ((1 : Int32) &&& 31)) ||| (bcnt (st &&& tp) &&& 1)) &&& (((1 : Int32) <<< (stg &&& 31)) - 1)
def sarC (stg num : Int32) : Int32 := if 1 ≤ stg then num - num / stg * stg else 0
def plC (ch ce : Int32) : Int32 := (1 : Int32) <<< ((ch * 8 + ce) &&& 31)
def rowC (ce sd : Int32) : Int64 := (ce.toInt64 <<< ((16 : Int32).toInt64 &&& 63)) ||| sd.toInt64
def celC (r : Int64) : Int64 := r >>> ((16 : Int32).toInt64 &&& 63)
def tapC (tp k : Int32) : Int32 := if tp &&& ((1 : Int32) <<< (k &&& 31)) = 0 then 0 else 1
def carC (ca va pl : Int32) : Int32 := if ca &&& pl = 0 then -1 else if va &&& pl = 0 then 0 else 1
def gowC (ca va ca' va' : Int32) : Int32 := if (ca &&& ca') &&& (va ^^^ va') = 0 then 1 else 0
