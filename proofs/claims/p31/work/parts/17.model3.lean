/-! The reference, 3: rows saved and put back, counts -/
def bpN (z : zZ) : Nat → Int32
  | 0 => 0
  | k + 1 => bpN z k + (if z (20 + k) = 0 then 0 else 1)
def ahN (z : zZ) (k : Nat) : Nat → Int32
  | 0 => 0
  | o + 1 => ahN z k o + (if z (20 + o) = 0 then 0 else if z (76 + k) ≤ z (76 + o) then 0 else 1)
def baN (z : zZ) (place : Int32) : Nat → Int32
  | 0 => -1
  | k + 1 => if z (20 + k) = 0 then baN z place k else if ahN z k 56 = place then nI k else baN z place k
def pkN (z : zZ) (p w : Nat) : Int32 := if w = 2 then isOpenZ z p else z (132 + 5 * p + w)
def cnN (z : zZ) (k w : Nat) : Int32 := if w < 13 then z (1 + w) else if w = 13 then z 0 else if w < 16 then z w else if w = 16 then bpN z 56 else nI k

