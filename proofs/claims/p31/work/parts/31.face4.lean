/-! The face: the digest -/
def hsP (β : zB) : Nat → Int64 → Int64
  | 0, h => h
  | p + 1, h => hsN (fun w => tellV β p w) 5 (hsP β p h)
def hbV (β : zB) (m : Nat) (x : Int64) : Int64 := hsN (β 9) 3 (hsP β 7 (hsN (β 3) 8 (hsN (β 2) m (hsN (fun i => β 1 i + 1) 56 x))))
def hcW (β : zB) (c : Nat) : Nat → Int64 → Int64
  | 0, h => h
  | p + 1, h => 31 * (31 * hcW β c p h + Int32.toInt64 (cv β c p)) + Int32.toInt64 (gv β c p)
def hcV (β : zB) (td : Nat → Nat → Int32) (tu : Nat → Int32) (c : Nat) (x : Int64) : Int64 := 31 * hsN (td c) 4 (hcW β c 7 x) + Int32.toInt64 (tu c)
def hcN (β : zB) (td : Nat → Nat → Int32) (tu : Nat → Int32) : Nat → Int64 → Int64
  | 0, h => h
  | c + 1, h => hcV β td tu c (hcN β td tu c h)
def dgX (β : zB) (m : Nat) (s : Int32) (td : Nat → Nat → Int32) (tu : Nat → Int32) : Int64 := hcN β td tu 7 (hbV β m (31 * hsN (β 0) 17 3677 + Int32.toInt64 s))
def dgT (β : zB) (m : Nat) (s : Int32) (f : Nat → Int32) (L : Nat) (td : Nat → Nat → Int32) (tu : Nat → Int32) : Int64 := hsN f L (31 * (31 * (31 * dgX β m s td tu + Int32.toInt64 (bcC β 7).1) + UInt64.toInt64 (pbV β)) + Int32.toInt64 (nI L))

