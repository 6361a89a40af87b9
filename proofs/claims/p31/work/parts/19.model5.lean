/-! The reference, 5: ways, what a launch would bring -/
theorem up2_in {μ : zB} {j k i : Nat} {f g : Nat → Int32} {x : Int32} (h : j ≠ k) : up2 (sa (sa μ j f) k g) j i x = sa (sa μ j (va_up f i x)) k g := by
  funext a; unfold up2 sa
  by_cases h1 : a = j
  · simp [h1, h]
  · by_cases h2 : a = k
    · simp [h1, h2, h.symm]
    · simp [h1, h2]
theorem sa2_self (μ : zB) : sa (sa μ 5 (μ 5)) 6 (μ 6) = μ := by rw [sa_self]; exact sa_self μ 6
def pinF (z : zZ) : Nat → Int32 := fun k => z (20 + k)
def ehF (d : Nat → Int32) (c i : Nat) : Nat → Int32 := fun k => if k < i then (if k = c then 1 else 0) else d k
theorem ehF_0 (d : Nat → Int32) (c : Nat) : ehF d c 0 = d := by funext k; unfold ehF; rw [if_neg (by omega)]
theorem ehF_s (d : Nat → Int32) (c i : Nat) : va_up (ehF d c i) i (if i = c then 1 else 0) = ehF d c (i + 1) := by
  funext k
  unfold va_up ehF
  by_cases h1 : k = i
  · subst h1; simp
  · by_cases h2 : k < i
    · simp [h1, h2, show k < i + 1 by omega]
    · simp [h1, h2, show ¬ k < i + 1 by omega]
def fwS (z : zZ) (r : Nat) (q : (Nat → Int32) × (Nat → Int32)) : (Nat → Int32) × (Nat → Int32) := (cpz q.1 (rowN (pinF z) q.1 r (filF q.2 7 0) 7) 7, rowN (pinF z) q.1 r (filF q.2 7 0) 7)
def fwN (z : zZ) (q : (Nat → Int32) × (Nat → Int32)) : Nat → (Nat → Int32) × (Nat → Int32)
  | 0 => q
  | r + 1 => fwS z r (fwN z q r)
def fwQ (z : zZ) (c : Nat) (x y : Nat → Int32) : (Nat → Int32) × (Nat → Int32) := fwN z (ehF x c 7, y) 8
theorem lchZ_hi (z : zZ) {c i : Nat} (hc : c < 7) (hi : 175 ≤ i) : lchZ z c i = z i := by
  unfold lchZ lz5
  show va_up _ _ _ i = _
  rw [va_ne (by omega), comeZ_keep _ _ (Or.inr (by omega)) (by omega) (lzA_lt z hc), ← lzA_eq, falN_keep _ (by omega) 8 (by omega), lz2_keep (by omega)]
theorem cpz_back {w a z : Nat → Int32} (h : ∀ i, 175 ≤ i → w i = z i) : cpz w (cpz a z 175) 175 = z := by
  funext k
  unfold cpz
  by_cases h1 : k < 175
  · rw [if_pos h1, if_pos h1]
  · rw [if_neg h1, h k (by omega)]
def ldV (z : zZ) (c w : Nat) : Int32 := if w = 0 then lchZ z c 12 else if w = 1 then lchZr z c else if w = 2 then lchZ z c 7 else lchZ z c 10
def ltN (c : Nat) : Nat → zZ × Nat → zZ × Nat
  | 0, q => q
  | k + 1, q => if q.1 10 = 0 then ltN c k (lchZ q.1 c, q.2 + 1) else q
def ltV (z : zZ) (c : Nat) : Int32 := if 200 < (ltN c 201 (z, 0)).2 then -1 else nI (ltN c 201 (z, 0)).2
def smN (z : zZ) (w : Nat → Int32) : Nat → Int32
  | 0 => 0
  | p + 1 => smN z w p + (if isOpenZ z p = 0 then 0 else w p * z (132 + 5 * p + 1))
def alN (w : Nat → Int32) : Nat → Int32
  | 0 => 0
  | p + 1 => alN w p + w p
def msV (z : zZ) (w : Nat → Int32) : Int32 := smN z w 7 * 1000 / alN w 7
/-- ways of a column, whatever the rows held before -/
def wv (z : zZ) (c : Nat) : Nat → Int32 := (fwQ z c (fun _ => 0) (fun _ => 0)).1
theorem rowN_ind {f g g2 : Nat → Int32} {r : Nat} {x x2 : Nat → Int32} (hg : ∀ k, k < 7 → g k = g2 k) (hx : ∀ k, k < 7 → x k = x2 k) : ∀ c, c ≤ 7 → ∀ k, k < 7 → rowN f g r x c k = rowN f g2 r x2 c k := by
  intro c
  induction c with
  | zero => intro _ k hk; exact hx k hk
  | succ c ih =>
    intro hc k hk
    have ih := ih (by omega)
    have hup : ∀ (a b : Nat → Int32), (∀ k, k < 7 → a k = b k) → ∀ (i : Nat), i < 7 → ∀ k, k < 7 → va_up a i (a i + g c) k = va_up b i (b i + g2 c) k := by
      intro a b hab i hi k hk
      unfold va_up
      rw [hab i hi, hg c (by omega), hab k hk]
    have h1 : ∀ k, k < 7 → (if 0 < f (r * 7 + c) then rowN f g r x c else va_up (rowN f g r x c) (bnc c (-1)) (rowN f g r x c (bnc c (-1)) + g c)) k = (if 0 < f (r * 7 + c) then rowN f g2 r x2 c else va_up (rowN f g2 r x2 c) (bnc c (-1)) (rowN f g2 r x2 c (bnc c (-1)) + g2 c)) k := by
      intro k hk
      split
      · exact ih k hk
      · exact hup _ _ ih _ (bnc_lt (by omega)) k hk
    simp only [rowN]
    split
    · exact h1 k hk
    · exact hup _ _ h1 _ (bnc_lt (by omega)) k hk
theorem fwN_ind {z : zZ} {q q2 : (Nat → Int32) × (Nat → Int32)} (h : ∀ k, k < 7 → q.1 k = q2.1 k) : ∀ r k, k < 7 → (fwN z q r).1 k = (fwN z q2 r).1 k := by
  intro r
  induction r with
  | zero => exact h
  | succ r ih =>
    intro k hk
    show cpz _ _ 7 k = cpz _ _ 7 k
    unfold cpz
    rw [if_pos hk, if_pos hk]
    refine rowN_ind ih (fun k hk => ?_) 7 (by omega) k hk
    unfold filF
    rw [if_pos hk, if_pos hk]
theorem fwQ_wv {z : zZ} {c : Nat} {x y : Nat → Int32} {k : Nat} (hk : k < 7) : (fwQ z c x y).1 k = wv z c k := by
  refine fwN_ind (fun k hk => ?_) 8 k hk
  show ehF x c 7 k = ehF (fun _ => 0) c 7 k
  unfold ehF
  rw [if_pos hk, if_pos hk]
theorem smN_ind {z : zZ} {w w2 : Nat → Int32} (h : ∀ k, k < 7 → w k = w2 k) : ∀ p, p ≤ 7 → smN z w p = smN z w2 p := by
  intro p
  induction p with
  | zero => intro _; rfl
  | succ p ih => intro hp; simp only [smN]; rw [ih (by omega), h p (by omega)]
theorem alN_ind {w w2 : Nat → Int32} (h : ∀ k, k < 7 → w k = w2 k) : ∀ p, p ≤ 7 → alN w p = alN w2 p := by
  intro p
  induction p with
  | zero => intro _; rfl
  | succ p ih => intro hp; simp only [alN]; rw [ih (by omega), h p (by omega)]
theorem msV_ind {z : zZ} {w w2 : Nat → Int32} (h : ∀ k, k < 7 → w k = w2 k) : msV z w = msV z w2 := by
  unfold msV
  rw [smN_ind h 7 (by omega), alN_ind h 7 (by omega)]
/-- best column and its measure over the columns below i -/
def bcN (z : zZ) : Nat → Int32 × Int32
  | 0 => (-1, -1)
  | c + 1 => if msV z (wv z c) ≤ (bcN z c).2 then bcN z c else (nI c, msV z (wv z c))

