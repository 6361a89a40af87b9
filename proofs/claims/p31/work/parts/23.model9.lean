/-! The reference: its digest -/
theorem sa_156 {μ : zB} {w x y w2 : Nat → Int32} : sa (sa (sa (sa μ 1 w) 5 x) 6 y) 1 w2 = sa (sa (sa μ 1 w2) 5 x) 6 y := by
  funext a; unfold sa
  by_cases h1 : a = 6
  · simp [h1]
  · by_cases h2 : a = 5
    · simp [h2]
    · by_cases h3 : a = 1
      · simp [h3]
      · simp [h1, h2, h3]
theorem sa_0156 (μ : zB) : sa (sa (sa μ 1 (μ 1)) 5 (μ 5)) 6 (μ 6) = μ := by rw [sa_self, sa_self]; exact sa_self μ 6
def hsN (f : Nat → Int32) : Nat → Int64 → Int64
  | 0, h => h
  | k + 1, h => 31 * hsN f k h + Int32.toInt64 (f k)
def hpN (f : Nat → Int32) : Nat → Int64 → Int64
  | 0, h => h
  | k + 1, h => 31 * hpN f k h + Int32.toInt64 (f k) + 1
def dgP (z : zZ) : Nat → Int64 → Int64
  | 0, h => h
  | p + 1, h => hsN (fun w => pkN z p w) 5 (dgP z p h)
def dgW (w : Nat → Int32) : Nat → Int64 → Int64
  | 0, h => h
  | p + 1, h => 31 * (31 * dgW w p h + Int32.toInt64 (w p)) + Int32.toInt64 (w p)
def dgC (z : zZ) : Nat → Int64 → Int64
  | 0, h => h
  | c + 1, h => 31 * hsN (fun w => ldV z c w) 4 (dgW (wv z c) 7 (dgC z c h)) + Int32.toInt64 (ltV z c)
/-- how many pins are bent -/
def bpC (z : zZ) : Nat → Nat
  | 0 => 0
  | i + 1 => bpC z i + (if z (20 + i) = 0 then 0 else 1)
def dgA (z : zZ) (k : Nat) : Int64 := hpN (fun i => z (20 + i)) 56 (hsN (fun i => cnN z k i) 18 3677)
def dgB (z : zZ) (k : Nat) : Int64 := hsN (fun i => z (167 + i)) 8 (hsN (fun i => baN z (nI i) 56) (bpC z 56) (dgA z k))
def dgD (z : zZ) (k : Nat) : Int64 := dgC z 7 (hsN (fun i => z (17 + i)) 3 (dgP z 7 (dgB z k)))
def dgV (z : zZ) (k : Nat) (f : Nat → Int32) (L : Nat) : Int64 := hsN f L (31 * (31 * (31 * dgD z k + Int32.toInt64 (bcN z 7).1) + UInt64.toInt64 (shV z)) + Int32.toInt64 (nI L))
theorem bpC_le (z : zZ) (i : Nat) : bpC z i ≤ i := by
  induction i with
  | zero => exact Nat.le_refl _
  | succ i ih => simp only [bpC]; split <;> omega
theorem bpN_C (z : zZ) (i : Nat) : bpN z i = nI (bpC z i) := by
  induction i with
  | zero => rfl
  | succ i ih =>
    simp only [bpC]
    show bpN z i + _ = _
    rw [ih]
    split
    · exact nI_add _ 0
    · exact nI_add _ 1

