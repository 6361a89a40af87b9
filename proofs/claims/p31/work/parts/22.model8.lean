/-! The works of a text; the share -/
theorem nI_nn {p : Nat} (h : p < 2 ^ 30) : (0 : Int32) ≤ nI p := nI_pos' (by omega)
theorem feN_ok {f : Nat → Int32} {L k a : Nat} (ha : a ≤ L) (hL : L ≤ 60) (h : ¬ 0 ≤ feN f L (k + 1) a) : ∃ p, rpS f L a = (true, p) ∧ a < p ∧ p ≤ L ∧ (p + 1 ≤ L → ¬ 0 ≤ feN f L k (p + 1)) := by
  have hb := rpS_b f ha
  simp only [feN] at h
  generalize hq : rpS f L a = q at h hb
  obtain ⟨ok, p⟩ := q
  cases ok with
  | false => rw [if_neg Bool.false_ne_true] at h; exact absurd (nI_nn (by have := hb.2.1; simp only [] at this; omega)) h
  | true =>
    have hb3 := hb.2.2 rfl
    simp only [] at hb3 h
    rw [if_pos trivial] at h
    refine ⟨p, rfl, hb3.1, hb3.2, fun h2 => ?_⟩
    rw [if_neg (by omega)] at h
    by_cases h3 : f p = 59
    · rw [if_pos h3] at h; exact h
    · rw [if_neg h3] at h; exact absurd (nI_nn (by omega)) h
def wkN (f : Nat → Int32) (L : Nat) : Nat → Nat → zZ × Int32 × (Nat → Int32) → zZ × Int32 × (Nat → Int32)
  | 0, _, q => q
  | k + 1, a, q => if a < L then wkN f L k ((rpS f L a).2 + 1) ((dpZ (rpP f L a q.2.2) q.1).1, q.2.1 + (dpZ (rpP f L a q.2.2) q.1).2, rpP f L a q.2.2) else q
/-- the numbers in which the works begin -/
def wkF (f : Nat → Int32) (L k : Nat) (φ : Nat → Int32) : Nat → Int32 := va_up (va_up (feP f L (L + 1) 0 φ) 0 0) 1 (nI (recK k))
def wkQ (f : Nat → Int32) (L k : Nat) (z : zZ) (φ : Nat → Int32) : zZ × Int32 × (Nat → Int32) := wkN f L (L + 1) 0 (z, 0, wkF f L k φ)
theorem rpP_0 (f : Nat → Int32) (L a : Nat) (φ : Nat → Int32) {i : Nat} (h : i < 4) : rpP f L a φ i = φ i := rpP_3 f L a φ h
theorem wkN_x {f : Nat → Int32} {L : Nat} (hL : L ≤ 60) : ∀ (k a : Nat) (q : zZ × Int32 × (Nat → Int32)), (a ≤ L → ¬ 0 ≤ feN f L k a) → xOk q.1 → pinZ q.1 → xOk (wkN f L k a q).1 ∧ pinZ (wkN f L k a q).1 ∧ (∀ i, i < 4 → (wkN f L k a q).2.2 i = q.2.2 i) := by
  intro k
  induction k with
  | zero => intro a q _ h1 h2; exact ⟨h1, h2, fun _ _ => rfl⟩
  | succ k ih =>
    intro a q hf h1 h2
    simp only [wkN]
    by_cases ha : a < L
    · rw [if_pos ha]
      obtain ⟨p, hp, hp1, hp2, hp3⟩ := feN_ok (by omega) hL (hf (by omega))
      have hd := dpZ_x (φ := rpP f L a q.2.2) (z := q.1) (rpP_ok f L a q.2.2 (by rw [hp])) h1 h2
      have := ih ((rpS f L a).2 + 1) ((dpZ (rpP f L a q.2.2) q.1).1, q.2.1 + (dpZ (rpP f L a q.2.2) q.1).2, rpP f L a q.2.2) (by rw [hp]; exact hp3) hd.1 hd.2
      exact ⟨this.1, this.2.1, fun i hi => (this.2.2 i hi).trans (rpP_3 f L a q.2.2 hi)⟩
    · rw [if_neg ha]; exact ⟨h1, h2, fun _ _ => rfl⟩

def shV (z : zZ) : UInt64 := if z 3 = 0 then FP.dconst0 else FP.ddiv (FP.i2d (z 4)) (FP.i2d (z 3))

