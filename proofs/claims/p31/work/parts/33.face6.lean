/-! The face: a part's deed; work -/
/-- what a board's pins and list of bent pins must be for a bend -/
def BI (β : zB) (m : Nat) : Prop := pinOk (β 1) ∧ β 0 16 = nI m ∧ m ≤ 56 ∧ ∀ i, i < 56 → β 1 i = 0 → m < 56
def pdOk (f : Nat → Int32) (L p u : Nat) : Prop := (cAt f L p = 108 ∧ ∃ c1 k, c1 < 7 ∧ k < 1000 ∧ dAt f L (p + 1) = nI c1 ∧ nmF f L (p + 3) (u - (p + 3)) = nI k) ∨ (cAt f L p = 98 ∧ ∃ r c1, r < 8 ∧ c1 < 7 ∧ dAt f L (p + 1) = nI r ∧ dAt f L (p + 2) = nI c1) ∨ (¬ cAt f L p = 98 ∧ ¬ cAt f L p = 108)
def pdB (f : Nat → Int32) (L p u : Nat) (β : zB) : zB × Int32 := if cAt f L p = 108 then plB (dAt f L (p + 1)).toNatClampNeg (nmF f L (p + 3) (u - (p + 3))).toNatClampNeg (β, 0)
  else if cAt f L p = 98 then (bendB β ((dAt f L (p + 1)).toNatClampNeg * 7 + (dAt f L (p + 2)).toNatClampNeg) (β 0 16).toNatClampNeg (bAt f L (p + 3)), 0) else (buyB β (nmF f L (p + 1) (u - (p + 1))), 0)

def cwN (f : Nat → Int32) (L : Nat) : Nat → Nat → Nat → zB × Int32 → zB × Int32
  | 0, _, _, q => q
  | k + 1, j, fr, q => if ePart f L j = 0 then cwN f L k (j + 1) fr q else cwN f L k (j + 1) (j + 1) ((pdB f L fr j q.1).1, q.2 + (pdB f L fr j q.1).2)
def cwOk (f : Nat → Int32) (L : Nat) : Nat → Nat → Nat → Prop
  | 0, _, _ => True
  | k + 1, j, fr => if ePart f L j = 0 then cwOk f L k (j + 1) fr else pdOk f L fr j ∧ cwOk f L k (j + 1) (j + 1)

