/-! The reference: what the law calls -/
theorem inV_N {k lo hi : Nat} (h1 : lo ≤ k) (h2 : k ≤ hi) (h3 : hi < 2 ^ 31) : inV (nI k) (nI lo) (nI hi) = 1 := by
  unfold inV
  rw [if_neg (fun q => absurd ((nI_ltI (by omega) (by omega)).mp q) (by omega)), if_neg (fun q => absurd ((nI_ltI (by omega) (by omega)).mp q) (by omega))]
theorem inV_T {v lo hi : Int32} (h : inV v lo hi = 1) : ¬ inV v lo hi = 0 := by rw [h]; decide

def pocZ (z : zZ) (p : Nat) (q w : Int32) : zZ := va_up (va_up (va_up z (132 + 5 * p + 2) (if q = 2 then (if z (132 + 5 * p) = 2 then z (132 + 5 * p + 2) else 0) else 0)) (132 + 5 * p + 0) q) (132 + 5 * p + 1) w

