/-! Text: the state machine of the buffer -/
def rngS (c lo hi r : Int32) : Int32 := if c < lo then -1 else if hi < c then -1 else r
def sLet (c : Int32) : Int32 := if c = 36 then 7 else if c = 98 then 4 else if c = 108 then 1 else -1
def sDig (c : Int32) : Int32 := if c = 49 then 8 else if c = 50 then 8 else if c = 51 then 9 else if c < 52 then -1 else if 57 < c then -1 else 10
def sEnd (c : Int32) : Int32 := if c = 59 then 0 else -1
def stp (s c : Int32) : Int32 := if s = 0 then sLet c else if s = 1 then rngS c 48 54 2 else if s = 2 then (if c = 120 then 3 else -1) else if s = 3 then sDig c else if s = 4 then rngS c 48 55 5 else if s = 5 then rngS c 48 54 6
  else if s = 6 then (if c = 60 then 10 else if c = 124 then 10 else if c = 62 then 10 else -1) else if s = 7 then rngS c 49 57 8 else if s = 8 then (if c < 48 then sEnd c else if 57 < c then sEnd c else 10) else if s = 9 then (if c = 48 then 10 else sEnd c) else if s = 10 then sEnd c else -1
def stOk (s : Int32) : Prop := s = -1 ∨ s = 0 ∨ s = 1 ∨ s = 2 ∨ s = 3 ∨ s = 4 ∨ s = 5 ∨ s = 6 ∨ s = 7 ∨ s = 8 ∨ s = 9 ∨ s = 10
theorem sEnd_ok (c : Int32) : stOk (sEnd c) := by unfold sEnd stOk; split <;> simp
theorem rngS_ok (c lo hi r : Int32) (h : stOk r) : stOk (rngS c lo hi r) := by
  unfold rngS; split
  · exact Or.inl rfl
  · split
    · exact Or.inl rfl
    · exact h
theorem stp_ok (s c : Int32) : stOk (stp s c) := by
  unfold stp sLet sDig
  repeat' split
  all_goals first | exact sEnd_ok _ | exact rngS_ok _ _ _ _ (by simp [stOk]) | simp [stOk]
def stN (f : Nat → Int32) : Nat → Int32
  | 0 => 0
  | j + 1 => stp (stN f j) (f j)
theorem stN_ok (f : Nat → Int32) (j : Nat) : stOk (stN f j) := by
  cases j with
  | zero => exact Or.inr (Or.inl rfl)
  | succ j => exact stp_ok _ _
def errAt (f : Nat → Int32) : Nat → Nat → Nat
  | 0, j => j
  | r + 1, j => if stN f (j + 1) = -1 then j else errAt f r (j + 1)
def cAt (f : Nat → Int32) (L p : Nat) : Int32 := if L ≤ p then -1 else f p
def dAt (f : Nat → Int32) (L p : Nat) : Int32 := if cAt f L p < 48 then 0 else if 57 < cAt f L p then 0 else cAt f L p - 48
def ePart (f : Nat → Int32) (L p : Nat) : Int32 := if p = L then 1 else if cAt f L p = 59 then 1 else 0
def nmF (f : Nat → Int32) (L a : Nat) : Nat → Int32
  | 0 => 0
  | r + 1 => 10 * nmF f L a r + dAt f L (a + r)
def bAt (f : Nat → Int32) (L p : Nat) : Int32 := if cAt f L p = 60 then -1 else if cAt f L p = 62 then 1 else 0

