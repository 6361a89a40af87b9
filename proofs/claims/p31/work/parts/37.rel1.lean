/-! The board and the row of numbers: what is told of either -/
theorem vat {f : Nat → Int32} {i : Nat} {x : Int32} : va_up f i x i = x := va_up_self f i x
theorem u2ne {β : zB} {j q i : Nat} {x : Int32} (h : q ≠ j) : up2 β j i x q = β q := up2_ne β i x h
theorem u2at {β : zB} {j i : Nat} {x : Int32} : up2 β j i x j = va_up (β j) i x := up2_at β j i x
theorem sane {β : zB} {j q : Nat} {f : Nat → Int32} (h : q ≠ j) : sa β j f q = β q := sa_ne β f h
theorem saat {β : zB} {j : Nat} {f : Nat → Int32} : sa β j f j = f := sa_at β j f
def RV (β : zB) (z : zZ) : Prop := (∀ i, i < 13 → β 0 i = z (i + 1)) ∧ (β 0 13 = z 0 ∧ β 0 14 = z 14 ∧ β 0 15 = z 15) ∧ (∀ i, i < 56 → β 1 i = z (20 + i)) ∧ (∀ i, i < 8 → β 3 i = z (167 + i)) ∧ (∀ p, p < 7 → β 4 p = z (132 + 5 * p)) ∧ (∀ p, p < 7 → β 5 p = z (132 + 5 * p + 1)) ∧
  (∀ p, p < 7 → β 4 p = 2 → β 6 p = z (132 + 5 * p + 2)) ∧ (∀ p, p < 7 → β 7 p = z (132 + 5 * p + 3)) ∧ (∀ p, p < 7 → β 8 p = z (132 + 5 * p + 4)) ∧ (∀ r, r < 3 → β 9 r = z (17 + r))
theorem ca13 {Q : Nat → Prop} (h0 : Q 0) (h1 : Q 1) (h2 : Q 2) (h3 : Q 3) (h4 : Q 4) (h5 : Q 5) (h6 : Q 6) (h7 : Q 7) (h8 : Q 8) (h9 : Q 9) (h10 : Q 10) (h11 : Q 11) (h12 : Q 12) : ∀ i, i < 13 → Q i
  | 0, _ => h0 | 1, _ => h1 | 2, _ => h2 | 3, _ => h3 | 4, _ => h4 | 5, _ => h5 | 6, _ => h6 | 7, _ => h7 | 8, _ => h8 | 9, _ => h9 | 10, _ => h10 | 11, _ => h11 | 12, _ => h12
theorem RV.n {β : zB} {z : zZ} (h : RV β z) {i : Nat} (hi : i < 13) : β 0 i = z (i + 1) := h.1 i hi
theorem RV.x {β : zB} {z : zZ} (h : RV β z) : β 0 13 = z 0 := h.2.1.1
theorem RV.s1 {β : zB} {z : zZ} (h : RV β z) : β 0 14 = z 14 := h.2.1.2.1
theorem RV.s2 {β : zB} {z : zZ} (h : RV β z) : β 0 15 = z 15 := h.2.1.2.2
theorem RV.p {β : zB} {z : zZ} (h : RV β z) {i : Nat} (hi : i < 56) : β 1 i = z (20 + i) := h.2.2.1 i hi
theorem RV.t {β : zB} {z : zZ} (h : RV β z) {i : Nat} (hi : i < 8) : β 3 i = z (167 + i) := h.2.2.2.1 i hi
theorem RV.k {β : zB} {z : zZ} (h : RV β z) {p : Nat} (hp : p < 7) : β 4 p = z (132 + 5 * p) := h.2.2.2.2.1 p hp
theorem RV.y {β : zB} {z : zZ} (h : RV β z) {p : Nat} (hp : p < 7) : β 5 p = z (132 + 5 * p + 1) := h.2.2.2.2.2.1 p hp
theorem RV.o {β : zB} {z : zZ} (h : RV β z) {p : Nat} (hp : p < 7) : β 4 p = 2 → β 6 p = z (132 + 5 * p + 2) := h.2.2.2.2.2.2.1 p hp
theorem RV.c {β : zB} {z : zZ} (h : RV β z) {p : Nat} (hp : p < 7) : β 7 p = z (132 + 5 * p + 3) := h.2.2.2.2.2.2.2.1 p hp
theorem RV.g {β : zB} {z : zZ} (h : RV β z) {p : Nat} (hp : p < 7) : β 8 p = z (132 + 5 * p + 4) := h.2.2.2.2.2.2.2.2.1 p hp
theorem RV.w {β : zB} {z : zZ} (h : RV β z) {r : Nat} (hr : r < 3) : β 9 r = z (17 + r) := h.2.2.2.2.2.2.2.2.2 r hr

theorem RV_num {β : zB} {z : zZ} (h : RV β z) {i : Nat} (hi : i < 13) (x : Int32) : RV (up2 β 0 i x) (va_up z (i + 1) x) := by
  refine ⟨fun q q1 => ?_, ⟨?_, ?_, ?_⟩, fun q q1 => ?_, fun q q1 => ?_, fun q q1 => ?_, fun q q1 => ?_, fun q q1 q2 => ?_, fun q q1 => ?_, fun q q1 => ?_, fun q q1 => ?_⟩
  · by_cases e : q = i
    · subst e; simp (disch := omega) only [u2ne, u2at, sane, saat, va_ne, vat]
    · simp (disch := omega) only [u2ne, u2at, sane, saat, va_ne, vat]; exact h.n q1
  · try simp (disch := omega) only [u2ne, u2at, sane, saat, va_ne, vat]
    exact h.x
  · try simp (disch := omega) only [u2ne, u2at, sane, saat, va_ne, vat]
    exact h.s1
  · try simp (disch := omega) only [u2ne, u2at, sane, saat, va_ne, vat]
    exact h.s2
  · try simp (disch := omega) only [u2ne, u2at, sane, saat, va_ne, vat]
    exact h.p q1
  · try simp (disch := omega) only [u2ne, u2at, sane, saat, va_ne, vat]
    exact h.t q1
  · try simp (disch := omega) only [u2ne, u2at, sane, saat, va_ne, vat]
    exact h.k q1
  · try simp (disch := omega) only [u2ne, u2at, sane, saat, va_ne, vat]
    exact h.y q1
  · skip
    try simp (disch := omega) only [u2ne, u2at, sane, saat, va_ne, vat] at q2
    try simp (disch := omega) only [u2ne, u2at, sane, saat, va_ne, vat]
    exact h.o q1 q2
  · try simp (disch := omega) only [u2ne, u2at, sane, saat, va_ne, vat]
    exact h.c q1
  · try simp (disch := omega) only [u2ne, u2at, sane, saat, va_ne, vat]
    exact h.g q1
  · try simp (disch := omega) only [u2ne, u2at, sane, saat, va_ne, vat]
    exact h.w q1

theorem RV_x {β : zB} {z : zZ} (h : RV β z) (x : Int32) : RV (up2 β 0 13 x) (va_up z 0 x) := by
  refine ⟨fun q q1 => ?_, ⟨?_, ?_, ?_⟩, fun q q1 => ?_, fun q q1 => ?_, fun q q1 => ?_, fun q q1 => ?_, fun q q1 q2 => ?_, fun q q1 => ?_, fun q q1 => ?_, fun q q1 => ?_⟩
  · try simp (disch := omega) only [u2ne, u2at, sane, saat, va_ne, vat]
    exact h.n q1
  · simp (disch := omega) only [u2ne, u2at, sane, saat, va_ne, vat]
  · try simp (disch := omega) only [u2ne, u2at, sane, saat, va_ne, vat]
    exact h.s1
  · try simp (disch := omega) only [u2ne, u2at, sane, saat, va_ne, vat]
    exact h.s2
  · try simp (disch := omega) only [u2ne, u2at, sane, saat, va_ne, vat]
    exact h.p q1
  · try simp (disch := omega) only [u2ne, u2at, sane, saat, va_ne, vat]
    exact h.t q1
  · try simp (disch := omega) only [u2ne, u2at, sane, saat, va_ne, vat]
    exact h.k q1
  · try simp (disch := omega) only [u2ne, u2at, sane, saat, va_ne, vat]
    exact h.y q1
  · skip
    try simp (disch := omega) only [u2ne, u2at, sane, saat, va_ne, vat] at q2
    try simp (disch := omega) only [u2ne, u2at, sane, saat, va_ne, vat]
    exact h.o q1 q2
  · try simp (disch := omega) only [u2ne, u2at, sane, saat, va_ne, vat]
    exact h.c q1
  · try simp (disch := omega) only [u2ne, u2at, sane, saat, va_ne, vat]
    exact h.g q1
  · try simp (disch := omega) only [u2ne, u2at, sane, saat, va_ne, vat]
    exact h.w q1

theorem RV_s1 {β : zB} {z : zZ} (h : RV β z) (x : Int32) : RV (up2 β 0 14 x) (va_up z 14 x) := by
  refine ⟨fun q q1 => ?_, ⟨?_, ?_, ?_⟩, fun q q1 => ?_, fun q q1 => ?_, fun q q1 => ?_, fun q q1 => ?_, fun q q1 q2 => ?_, fun q q1 => ?_, fun q q1 => ?_, fun q q1 => ?_⟩
  · try simp (disch := omega) only [u2ne, u2at, sane, saat, va_ne, vat]
    exact h.n q1
  · try simp (disch := omega) only [u2ne, u2at, sane, saat, va_ne, vat]
    exact h.x
  · simp (disch := omega) only [u2ne, u2at, sane, saat, va_ne, vat]
  · try simp (disch := omega) only [u2ne, u2at, sane, saat, va_ne, vat]
    exact h.s2
  · try simp (disch := omega) only [u2ne, u2at, sane, saat, va_ne, vat]
    exact h.p q1
  · try simp (disch := omega) only [u2ne, u2at, sane, saat, va_ne, vat]
    exact h.t q1
  · try simp (disch := omega) only [u2ne, u2at, sane, saat, va_ne, vat]
    exact h.k q1
  · try simp (disch := omega) only [u2ne, u2at, sane, saat, va_ne, vat]
    exact h.y q1
  · skip
    try simp (disch := omega) only [u2ne, u2at, sane, saat, va_ne, vat] at q2
    try simp (disch := omega) only [u2ne, u2at, sane, saat, va_ne, vat]
    exact h.o q1 q2
  · try simp (disch := omega) only [u2ne, u2at, sane, saat, va_ne, vat]
    exact h.c q1
  · try simp (disch := omega) only [u2ne, u2at, sane, saat, va_ne, vat]
    exact h.g q1
  · try simp (disch := omega) only [u2ne, u2at, sane, saat, va_ne, vat]
    exact h.w q1

theorem RV_s2 {β : zB} {z : zZ} (h : RV β z) (x : Int32) : RV (up2 β 0 15 x) (va_up z 15 x) := by
  refine ⟨fun q q1 => ?_, ⟨?_, ?_, ?_⟩, fun q q1 => ?_, fun q q1 => ?_, fun q q1 => ?_, fun q q1 => ?_, fun q q1 q2 => ?_, fun q q1 => ?_, fun q q1 => ?_, fun q q1 => ?_⟩
  · try simp (disch := omega) only [u2ne, u2at, sane, saat, va_ne, vat]
    exact h.n q1
  · try simp (disch := omega) only [u2ne, u2at, sane, saat, va_ne, vat]
    exact h.x
  · try simp (disch := omega) only [u2ne, u2at, sane, saat, va_ne, vat]
    exact h.s1
  · simp (disch := omega) only [u2ne, u2at, sane, saat, va_ne, vat]
  · try simp (disch := omega) only [u2ne, u2at, sane, saat, va_ne, vat]
    exact h.p q1
  · try simp (disch := omega) only [u2ne, u2at, sane, saat, va_ne, vat]
    exact h.t q1
  · try simp (disch := omega) only [u2ne, u2at, sane, saat, va_ne, vat]
    exact h.k q1
  · try simp (disch := omega) only [u2ne, u2at, sane, saat, va_ne, vat]
    exact h.y q1
  · skip
    try simp (disch := omega) only [u2ne, u2at, sane, saat, va_ne, vat] at q2
    try simp (disch := omega) only [u2ne, u2at, sane, saat, va_ne, vat]
    exact h.o q1 q2
  · try simp (disch := omega) only [u2ne, u2at, sane, saat, va_ne, vat]
    exact h.c q1
  · try simp (disch := omega) only [u2ne, u2at, sane, saat, va_ne, vat]
    exact h.g q1
  · try simp (disch := omega) only [u2ne, u2at, sane, saat, va_ne, vat]
    exact h.w q1

theorem RV_b {β : zB} {z : zZ} (h : RV β z) (x : Int32) : RV (up2 β 0 16 x) (z) := by
  refine ⟨fun q q1 => ?_, ⟨?_, ?_, ?_⟩, fun q q1 => ?_, fun q q1 => ?_, fun q q1 => ?_, fun q q1 => ?_, fun q q1 q2 => ?_, fun q q1 => ?_, fun q q1 => ?_, fun q q1 => ?_⟩
  · try simp (disch := omega) only [u2ne, u2at, sane, saat, va_ne, vat]
    exact h.n q1
  · try simp (disch := omega) only [u2ne, u2at, sane, saat, va_ne, vat]
    exact h.x
  · try simp (disch := omega) only [u2ne, u2at, sane, saat, va_ne, vat]
    exact h.s1
  · try simp (disch := omega) only [u2ne, u2at, sane, saat, va_ne, vat]
    exact h.s2
  · try simp (disch := omega) only [u2ne, u2at, sane, saat, va_ne, vat]
    exact h.p q1
  · try simp (disch := omega) only [u2ne, u2at, sane, saat, va_ne, vat]
    exact h.t q1
  · try simp (disch := omega) only [u2ne, u2at, sane, saat, va_ne, vat]
    exact h.k q1
  · try simp (disch := omega) only [u2ne, u2at, sane, saat, va_ne, vat]
    exact h.y q1
  · skip
    try simp (disch := omega) only [u2ne, u2at, sane, saat, va_ne, vat] at q2
    try simp (disch := omega) only [u2ne, u2at, sane, saat, va_ne, vat]
    exact h.o q1 q2
  · try simp (disch := omega) only [u2ne, u2at, sane, saat, va_ne, vat]
    exact h.c q1
  · try simp (disch := omega) only [u2ne, u2at, sane, saat, va_ne, vat]
    exact h.g q1
  · try simp (disch := omega) only [u2ne, u2at, sane, saat, va_ne, vat]
    exact h.w q1

theorem RV_l {β : zB} {z : zZ} (h : RV β z) (i : Nat) (x : Int32) : RV (up2 β 2 i x) (z) := by
  refine ⟨fun q q1 => ?_, ⟨?_, ?_, ?_⟩, fun q q1 => ?_, fun q q1 => ?_, fun q q1 => ?_, fun q q1 => ?_, fun q q1 q2 => ?_, fun q q1 => ?_, fun q q1 => ?_, fun q q1 => ?_⟩
  · try simp (disch := omega) only [u2ne, u2at, sane, saat, va_ne, vat]
    exact h.n q1
  · try simp (disch := omega) only [u2ne, u2at, sane, saat, va_ne, vat]
    exact h.x
  · try simp (disch := omega) only [u2ne, u2at, sane, saat, va_ne, vat]
    exact h.s1
  · try simp (disch := omega) only [u2ne, u2at, sane, saat, va_ne, vat]
    exact h.s2
  · try simp (disch := omega) only [u2ne, u2at, sane, saat, va_ne, vat]
    exact h.p q1
  · try simp (disch := omega) only [u2ne, u2at, sane, saat, va_ne, vat]
    exact h.t q1
  · try simp (disch := omega) only [u2ne, u2at, sane, saat, va_ne, vat]
    exact h.k q1
  · try simp (disch := omega) only [u2ne, u2at, sane, saat, va_ne, vat]
    exact h.y q1
  · skip
    try simp (disch := omega) only [u2ne, u2at, sane, saat, va_ne, vat] at q2
    try simp (disch := omega) only [u2ne, u2at, sane, saat, va_ne, vat]
    exact h.o q1 q2
  · try simp (disch := omega) only [u2ne, u2at, sane, saat, va_ne, vat]
    exact h.c q1
  · try simp (disch := omega) only [u2ne, u2at, sane, saat, va_ne, vat]
    exact h.g q1
  · try simp (disch := omega) only [u2ne, u2at, sane, saat, va_ne, vat]
    exact h.w q1

theorem RV_lf {β : zB} {z : zZ} (h : RV β z) (f : Nat → Int32) : RV (sa β 2 f) (z) := by
  refine ⟨fun q q1 => ?_, ⟨?_, ?_, ?_⟩, fun q q1 => ?_, fun q q1 => ?_, fun q q1 => ?_, fun q q1 => ?_, fun q q1 q2 => ?_, fun q q1 => ?_, fun q q1 => ?_, fun q q1 => ?_⟩
  · try simp (disch := omega) only [u2ne, u2at, sane, saat, va_ne, vat]
    exact h.n q1
  · try simp (disch := omega) only [u2ne, u2at, sane, saat, va_ne, vat]
    exact h.x
  · try simp (disch := omega) only [u2ne, u2at, sane, saat, va_ne, vat]
    exact h.s1
  · try simp (disch := omega) only [u2ne, u2at, sane, saat, va_ne, vat]
    exact h.s2
  · try simp (disch := omega) only [u2ne, u2at, sane, saat, va_ne, vat]
    exact h.p q1
  · try simp (disch := omega) only [u2ne, u2at, sane, saat, va_ne, vat]
    exact h.t q1
  · try simp (disch := omega) only [u2ne, u2at, sane, saat, va_ne, vat]
    exact h.k q1
  · try simp (disch := omega) only [u2ne, u2at, sane, saat, va_ne, vat]
    exact h.y q1
  · skip
    try simp (disch := omega) only [u2ne, u2at, sane, saat, va_ne, vat] at q2
    try simp (disch := omega) only [u2ne, u2at, sane, saat, va_ne, vat]
    exact h.o q1 q2
  · try simp (disch := omega) only [u2ne, u2at, sane, saat, va_ne, vat]
    exact h.c q1
  · try simp (disch := omega) only [u2ne, u2at, sane, saat, va_ne, vat]
    exact h.g q1
  · try simp (disch := omega) only [u2ne, u2at, sane, saat, va_ne, vat]
    exact h.w q1

theorem RV_p {β : zB} {z : zZ} (h : RV β z) {i : Nat} (hi : i < 56) (x : Int32) : RV (up2 β 1 i x) (va_up z (20 + i) x) := by
  refine ⟨fun q q1 => ?_, ⟨?_, ?_, ?_⟩, fun q q1 => ?_, fun q q1 => ?_, fun q q1 => ?_, fun q q1 => ?_, fun q q1 q2 => ?_, fun q q1 => ?_, fun q q1 => ?_, fun q q1 => ?_⟩
  · try simp (disch := omega) only [u2ne, u2at, sane, saat, va_ne, vat]
    exact h.n q1
  · try simp (disch := omega) only [u2ne, u2at, sane, saat, va_ne, vat]
    exact h.x
  · try simp (disch := omega) only [u2ne, u2at, sane, saat, va_ne, vat]
    exact h.s1
  · try simp (disch := omega) only [u2ne, u2at, sane, saat, va_ne, vat]
    exact h.s2
  · by_cases e : q = i
    · subst e; simp (disch := omega) only [u2ne, u2at, sane, saat, va_ne, vat]
    · simp (disch := omega) only [u2ne, u2at, sane, saat, va_ne, vat]; exact h.p q1
  · try simp (disch := omega) only [u2ne, u2at, sane, saat, va_ne, vat]
    exact h.t q1
  · try simp (disch := omega) only [u2ne, u2at, sane, saat, va_ne, vat]
    exact h.k q1
  · try simp (disch := omega) only [u2ne, u2at, sane, saat, va_ne, vat]
    exact h.y q1
  · skip
    try simp (disch := omega) only [u2ne, u2at, sane, saat, va_ne, vat] at q2
    try simp (disch := omega) only [u2ne, u2at, sane, saat, va_ne, vat]
    exact h.o q1 q2
  · try simp (disch := omega) only [u2ne, u2at, sane, saat, va_ne, vat]
    exact h.c q1
  · try simp (disch := omega) only [u2ne, u2at, sane, saat, va_ne, vat]
    exact h.g q1
  · try simp (disch := omega) only [u2ne, u2at, sane, saat, va_ne, vat]
    exact h.w q1

theorem RV_t {β : zB} {z : zZ} (h : RV β z) {i : Nat} (hi : i < 8) (x : Int32) : RV (up2 β 3 i x) (va_up z (167 + i) x) := by
  refine ⟨fun q q1 => ?_, ⟨?_, ?_, ?_⟩, fun q q1 => ?_, fun q q1 => ?_, fun q q1 => ?_, fun q q1 => ?_, fun q q1 q2 => ?_, fun q q1 => ?_, fun q q1 => ?_, fun q q1 => ?_⟩
  · try simp (disch := omega) only [u2ne, u2at, sane, saat, va_ne, vat]
    exact h.n q1
  · try simp (disch := omega) only [u2ne, u2at, sane, saat, va_ne, vat]
    exact h.x
  · try simp (disch := omega) only [u2ne, u2at, sane, saat, va_ne, vat]
    exact h.s1
  · try simp (disch := omega) only [u2ne, u2at, sane, saat, va_ne, vat]
    exact h.s2
  · try simp (disch := omega) only [u2ne, u2at, sane, saat, va_ne, vat]
    exact h.p q1
  · by_cases e : q = i
    · subst e; simp (disch := omega) only [u2ne, u2at, sane, saat, va_ne, vat]
    · simp (disch := omega) only [u2ne, u2at, sane, saat, va_ne, vat]; exact h.t q1
  · try simp (disch := omega) only [u2ne, u2at, sane, saat, va_ne, vat]
    exact h.k q1
  · try simp (disch := omega) only [u2ne, u2at, sane, saat, va_ne, vat]
    exact h.y q1
  · skip
    try simp (disch := omega) only [u2ne, u2at, sane, saat, va_ne, vat] at q2
    try simp (disch := omega) only [u2ne, u2at, sane, saat, va_ne, vat]
    exact h.o q1 q2
  · try simp (disch := omega) only [u2ne, u2at, sane, saat, va_ne, vat]
    exact h.c q1
  · try simp (disch := omega) only [u2ne, u2at, sane, saat, va_ne, vat]
    exact h.g q1
  · try simp (disch := omega) only [u2ne, u2at, sane, saat, va_ne, vat]
    exact h.w q1

theorem RV_w {β : zB} {z : zZ} (h : RV β z) {i : Nat} (hi : i < 3) (x : Int32) : RV (up2 β 9 i x) (va_up z (17 + i) x) := by
  refine ⟨fun q q1 => ?_, ⟨?_, ?_, ?_⟩, fun q q1 => ?_, fun q q1 => ?_, fun q q1 => ?_, fun q q1 => ?_, fun q q1 q2 => ?_, fun q q1 => ?_, fun q q1 => ?_, fun q q1 => ?_⟩
  · try simp (disch := omega) only [u2ne, u2at, sane, saat, va_ne, vat]
    exact h.n q1
  · try simp (disch := omega) only [u2ne, u2at, sane, saat, va_ne, vat]
    exact h.x
  · try simp (disch := omega) only [u2ne, u2at, sane, saat, va_ne, vat]
    exact h.s1
  · try simp (disch := omega) only [u2ne, u2at, sane, saat, va_ne, vat]
    exact h.s2
  · try simp (disch := omega) only [u2ne, u2at, sane, saat, va_ne, vat]
    exact h.p q1
  · try simp (disch := omega) only [u2ne, u2at, sane, saat, va_ne, vat]
    exact h.t q1
  · try simp (disch := omega) only [u2ne, u2at, sane, saat, va_ne, vat]
    exact h.k q1
  · try simp (disch := omega) only [u2ne, u2at, sane, saat, va_ne, vat]
    exact h.y q1
  · skip
    try simp (disch := omega) only [u2ne, u2at, sane, saat, va_ne, vat] at q2
    try simp (disch := omega) only [u2ne, u2at, sane, saat, va_ne, vat]
    exact h.o q1 q2
  · try simp (disch := omega) only [u2ne, u2at, sane, saat, va_ne, vat]
    exact h.c q1
  · try simp (disch := omega) only [u2ne, u2at, sane, saat, va_ne, vat]
    exact h.g q1
  · by_cases e : q = i
    · subst e; simp (disch := omega) only [u2ne, u2at, sane, saat, va_ne, vat]
    · simp (disch := omega) only [u2ne, u2at, sane, saat, va_ne, vat]; exact h.w q1

theorem RV_zt {β : zB} {z : zZ} (h : RV β z) (x : Int32) : RV (β) (va_up z 16 x) := by
  refine ⟨fun q q1 => ?_, ⟨?_, ?_, ?_⟩, fun q q1 => ?_, fun q q1 => ?_, fun q q1 => ?_, fun q q1 => ?_, fun q q1 q2 => ?_, fun q q1 => ?_, fun q q1 => ?_, fun q q1 => ?_⟩
  · try simp (disch := omega) only [u2ne, u2at, sane, saat, va_ne, vat]
    exact h.n q1
  · try simp (disch := omega) only [u2ne, u2at, sane, saat, va_ne, vat]
    exact h.x
  · try simp (disch := omega) only [u2ne, u2at, sane, saat, va_ne, vat]
    exact h.s1
  · try simp (disch := omega) only [u2ne, u2at, sane, saat, va_ne, vat]
    exact h.s2
  · try simp (disch := omega) only [u2ne, u2at, sane, saat, va_ne, vat]
    exact h.p q1
  · try simp (disch := omega) only [u2ne, u2at, sane, saat, va_ne, vat]
    exact h.t q1
  · try simp (disch := omega) only [u2ne, u2at, sane, saat, va_ne, vat]
    exact h.k q1
  · try simp (disch := omega) only [u2ne, u2at, sane, saat, va_ne, vat]
    exact h.y q1
  · skip
    try simp (disch := omega) only [u2ne, u2at, sane, saat, va_ne, vat] at q2
    try simp (disch := omega) only [u2ne, u2at, sane, saat, va_ne, vat]
    exact h.o q1 q2
  · try simp (disch := omega) only [u2ne, u2at, sane, saat, va_ne, vat]
    exact h.c q1
  · try simp (disch := omega) only [u2ne, u2at, sane, saat, va_ne, vat]
    exact h.g q1
  · try simp (disch := omega) only [u2ne, u2at, sane, saat, va_ne, vat]
    exact h.w q1

theorem RV_zs {β : zB} {z : zZ} (h : RV β z) {i : Nat} (hi : i < 56) (x : Int32) : RV (β) (va_up z (76 + i) x) := by
  refine ⟨fun q q1 => ?_, ⟨?_, ?_, ?_⟩, fun q q1 => ?_, fun q q1 => ?_, fun q q1 => ?_, fun q q1 => ?_, fun q q1 q2 => ?_, fun q q1 => ?_, fun q q1 => ?_, fun q q1 => ?_⟩
  · try simp (disch := omega) only [u2ne, u2at, sane, saat, va_ne, vat]
    exact h.n q1
  · try simp (disch := omega) only [u2ne, u2at, sane, saat, va_ne, vat]
    exact h.x
  · try simp (disch := omega) only [u2ne, u2at, sane, saat, va_ne, vat]
    exact h.s1
  · try simp (disch := omega) only [u2ne, u2at, sane, saat, va_ne, vat]
    exact h.s2
  · try simp (disch := omega) only [u2ne, u2at, sane, saat, va_ne, vat]
    exact h.p q1
  · try simp (disch := omega) only [u2ne, u2at, sane, saat, va_ne, vat]
    exact h.t q1
  · try simp (disch := omega) only [u2ne, u2at, sane, saat, va_ne, vat]
    exact h.k q1
  · try simp (disch := omega) only [u2ne, u2at, sane, saat, va_ne, vat]
    exact h.y q1
  · skip
    try simp (disch := omega) only [u2ne, u2at, sane, saat, va_ne, vat] at q2
    try simp (disch := omega) only [u2ne, u2at, sane, saat, va_ne, vat]
    exact h.o q1 q2
  · try simp (disch := omega) only [u2ne, u2at, sane, saat, va_ne, vat]
    exact h.c q1
  · try simp (disch := omega) only [u2ne, u2at, sane, saat, va_ne, vat]
    exact h.g q1
  · try simp (disch := omega) only [u2ne, u2at, sane, saat, va_ne, vat]
    exact h.w q1

theorem RV_ext {β γ : zB} {z w : zZ} (h : RV β z) (hb : ∀ j i, j < 10 → i < lnB j → γ j i = β j i) (hz : ∀ k, k < 175 → w k = z k) : RV γ w := by
  refine ⟨fun q q1 => ?_, ⟨?_, ?_, ?_⟩, fun q q1 => ?_, fun q q1 => ?_, fun q q1 => ?_, fun q q1 => ?_, fun q q1 q2 => ?_, fun q q1 => ?_, fun q q1 => ?_, fun q q1 => ?_⟩

  · rw [hb 0 q (by decide) (show q < 17 by omega), hz (q + 1) (by omega)]
    exact h.n q1
  · rw [hb 0 13 (by decide) (show 13 < 17 by omega), hz (0) (by omega)]
    exact h.x
  · rw [hb 0 14 (by decide) (show 14 < 17 by omega), hz (14) (by omega)]
    exact h.s1
  · rw [hb 0 15 (by decide) (show 15 < 17 by omega), hz (15) (by omega)]
    exact h.s2
  · rw [hb 1 q (by decide) (show q < 56 by omega), hz (20 + q) (by omega)]
    exact h.p q1
  · rw [hb 3 q (by decide) (show q < 8 by omega), hz (167 + q) (by omega)]
    exact h.t q1
  · rw [hb 4 q (by decide) (show q < 7 by omega), hz (132 + 5 * q) (by omega)]
    exact h.k q1
  · rw [hb 5 q (by decide) (show q < 7 by omega), hz (132 + 5 * q + 1) (by omega)]
    exact h.y q1
  · rw [hb 4 q (by decide) (show q < 7 by omega)] at q2
    rw [hb 6 q (by decide) (show q < 7 by omega), hz (132 + 5 * q + 2) (by omega)]
    exact h.o q1 q2
  · rw [hb 7 q (by decide) (show q < 7 by omega), hz (132 + 5 * q + 3) (by omega)]
    exact h.c q1
  · rw [hb 8 q (by decide) (show q < 7 by omega), hz (132 + 5 * q + 4) (by omega)]
    exact h.g q1
  · rw [hb 9 q (by decide) (show q < 3 by omega), hz (17 + q) (by omega)]
    exact h.w q1
theorem up_id (z : Nat → Int32) (i : Nat) : va_up z i (z i + 0) = z := va_upv (by rw [Int32.add_zero])
theorem up_id' (z : Nat → Int32) (i : Nat) : va_up z i (z i - 0) = z := va_upv (by rw [Int32.sub_zero])
theorem up_cm {f : Nat → Int32} {i j : Nat} {x y : Int32} (h : i ≠ j) : va_up (va_up f i x) j y = va_up (va_up f j y) i x := by
  funext k
  unfold va_up
  by_cases h1 : k = j
  · rw [if_pos h1, if_neg (by omega), if_pos h1]
  · rw [if_neg h1, if_neg h1]
/-! draws -/
theorem RV_dr {β : zB} {z : zZ} (h : RV β z) (hx : xOk z) {m : Nat} (hm : m < 2 ^ 31) : drV (dr1 β) (nI m) = drZ z (nI m) ∧ Int64.toInt32 (dr1 β) = nxI (z 0) := by
  obtain ⟨q, hq, hz⟩ := hx
  have hx2 := h.x
  have e1 : dr1 β = Int64.ofNat (nxt q) := by
    unfold dr1
    rw [hx2, hz]
    exact nxL hq
  have b1 := nxt_lt q
  rw [drZ_nI hq hz hm, hz, nxI_nI hq, e1]
  refine ⟨?_, l2i_nI⟩
  unfold drV
  rw [show Int32.toInt64 (nI m) = Int64.ofNat m from nI_l hm, show (65536 : Int64) = Int64.ofNat 65536 from rfl, lN_div (by omega) (by omega)]
  have b2 : nxt q / 65536 < 32768 := by omega
  rw [lN_div (by omega) (by omega), ← Int64.ofNat_mul, ← Int64.ofNat_sub _ _ (Nat.div_mul_le_self _ _), l2i_nI]
  refine congrArg nI ?_
  have := Nat.div_add_mod (nxt q / 65536) m
  rw [Nat.mul_comm] at this
  omega
theorem RV_d {β : zB} {z : zZ} (h : RV β z) (hx : xOk z) : RV (dB β) (dZ z) := by
  unfold dB dZ
  rw [(RV_dr h hx (m := 2) (by decide)).2]
  exact RV_x h _
theorem RV_sp2 {β : zB} {z : zZ} (h : RV β z) (hx : xOk z) {m r : Nat} (hm : m < 2 ^ 31) (hr : r < 3) : RV (spin2 β (nI m) r) (spZr z (nI m) r) ∧ xOk (spZr z (nI m) r) := by
  unfold spin2 spZr
  rw [(RV_dr h hx hm).1]
  exact ⟨RV_w (RV_d h hx) hr _, xOk_up (xOk_d hx) (by omega)⟩
theorem RV_sp3 {β : zB} {z : zZ} (h : RV β z) (hx : xOk z) {m : Nat} (hm : m < 2 ^ 31) : RV (spin3 β (nI m)) (spZ3 z (nI m)) := by
  have h0 := RV_sp2 h hx hm (r := 0) (by omega)
  have h1 := RV_sp2 h0.1 h0.2 hm (r := 1) (by omega)
  exact (RV_sp2 h1.1 h1.2 hm (r := 2) (by omega)).1
theorem spZr_mv {z : zZ} {m x : Int32} {r : Nat} : spZr (va_up z 8 x) m r = va_up (spZr z m r) 8 x := by
  have e1 : dZ (va_up z 8 x) = va_up (dZ z) 8 x := by
    unfold dZ
    rw [va_ne (by omega), up_cm (by omega)]
  have e2 : drZ (va_up z 8 x) m = drZ z m := by
    unfold drZ
    rw [va_ne (by omega)]
  unfold spZr
  rw [e1, e2, up_cm (by omega)]
theorem spZ2_mv {z : zZ} {x : Int32} : spZ2 (va_up z 8 x) = va_up (spZ2 z) 8 x := by
  unfold spZ2
  rw [va_ne (by omega), up_cm (by omega)]
theorem spZ3_mv {z : zZ} {m x : Int32} : spZ3 (va_up z 8 x) m = va_up (spZ3 z m) 8 x := by
  unfold spZ3
  rw [spZr_mv, spZr_mv, spZr_mv]
theorem spZr_8 {z : zZ} {m : Int32} {r : Nat} : spZr z m r 8 = z 8 := by
  unfold spZr dZ
  rw [va_ne (by omega), va_ne (by omega)]
theorem spZ3_8 {z : zZ} {m : Int32} : spZ3 (spZ2 z) m 8 = z 8 := by
  unfold spZ3 spZ2
  rw [spZr_8, spZr_8, spZr_8, va_ne (by omega)]
theorem RV_sp1 {β : zB} {z : zZ} (h : RV β z) : RV (spin1 β) (spZ2 z) := by
  have e := h.n (i := 10) (by omega)
  unfold spin1 spZ2
  rw [e]
  by_cases hc : z (10 + 1) ≤ 0
  · rw [if_pos hc, if_pos hc, up_id']
    exact h
  · rw [if_neg hc, if_neg hc]
    exact RV_num h (by omega) _
theorem RV_sp5 {β : zB} {z : zZ} (h : RV β z) : RV (spin5 β) (spZ4 z) := by
  have e0 := h.w (r := 0) (by omega)
  have e1 := h.w (r := 1) (by omega)
  have e2 := h.w (r := 2) (by omega)
  have e8 := h.n (i := 8) (by omega)
  have e14 := h.s1
  have e15 := h.s2
  unfold spin5 spZ4
  rw [e0, e1, e2]
  have k0 : RV (up2 β 0 9 0) (va_up z 10 0) := RV_num h (by omega) _
  by_cases c1 : z (17 + 0) = z (17 + 1)
  · rw [if_pos c1, if_pos c1]
    by_cases c2 : z (17 + 1) = z (17 + 2)
    · rw [if_pos c2, if_pos (c1.trans c2), va_up2, e8]
      simp (disch := omega) only [u2at, va_ne, e14, e15]
      rw [up_cm (i := 10) (j := 9) (by omega)]
      exact RV_num (RV_num (RV_num h (i := 8) (by omega) _) (i := 9) (by omega) _) (i := 10) (by omega) _
    · rw [if_neg c2, if_neg (fun e => c2 (c1.symm.trans e))]
      exact k0
  · rw [if_neg c1, if_neg c1]
    exact k0
theorem RV_spin {β : zB} {z : zZ} (h : RV β z) (hx : xOk z) : RV (spinB (up2 β 0 6 (β 0 6 - 1))) (spZ z) := by
  have e6 := h.n (i := 6) (by omega)
  have h1 : RV (up2 β 0 6 (β 0 6 - 1)) (va_up z 7 (z 7 - 1)) := by rw [e6]; exact RV_num h (by omega) _
  have x1 : xOk (va_up z 7 (z 7 - 1)) := xOk_up hx (by omega)
  have h2 := RV_sp1 h1
  have x2 : xOk (spZ2 (va_up z 7 (z 7 - 1))) := xOk_up x1 (by omega)
  have em : spinL (up2 β 0 6 (β 0 6 - 1)) = spZm (spZ1 z) ∧ ∃ m, m < 2 ^ 31 ∧ spZm (spZ1 z) = nI m := by
    have e10 := h.n (i := 10) (by omega)
    unfold spinL spZm spZ1
    simp (disch := omega) only [u2at, va_ne, e10]
    by_cases c : z (10 + 1) ≤ 0
    · rw [if_pos c]; exact ⟨trivial, 8, by decide, rfl⟩
    · rw [if_neg c]; exact ⟨trivial, 4, by decide, rfl⟩
  obtain ⟨em, m, hm, e⟩ := em
  unfold spinB spZ
  rw [em, e]
  have h3 := RV_sp3 h2 x2 hm
  have e1 : spZ3 (spZ2 (spZ1 z)) (nI m) = va_up (spZ3 (spZ2 (va_up z 7 (z 7 - 1))) (nI m)) 8 (spZ3 (spZ2 (va_up z 7 (z 7 - 1))) (nI m) 8 + 1) := by
    unfold spZ1
    rw [spZ2_mv, spZ3_mv, spZ3_8, va_ne (by omega)]
  rw [e1]
  refine RV_sp5 ?_
  unfold spin4
  rw [h3.n (i := 7) (by omega)]
  exact RV_num h3 (by omega) _
/-! the fall -/
theorem RV_fs {β : zB} {z : zZ} (h : RV β z) (hx : xOk z) {r c : Nat} (hr : r < 8) (hc : c < 7) : RV (fallS β r c).1 (falS z r c).1 ∧ (fallS β r c).2 = (falS z r c).2 ∧ xOk (falS z r c).1 := by
  have hp := h.p (i := 7 * r + c) (by omega)
  have h1 : RV (up2 β 3 r (nI (7 * r + c))) (va_up z (167 + r) (nI (7 * r + c))) := RV_t h hr _
  have x1 : xOk (va_up z (167 + r) (nI (7 * r + c))) := xOk_up hx (by omega)
  have hd := RV_dr h1 x1 (m := 2) (by decide)
  unfold fallS falS
  rw [Nat.mul_comm r 7, hp]
  by_cases c0 : z (20 + (7 * r + c)) = 0
  · rw [if_pos c0, if_pos c0]
    refine ⟨RV_d h1 x1, ?_, xOk_d x1⟩
    refine congrArg (bnc c) ?_
    rw [show (2 : Int32) = nI 2 from rfl, hd.1]
    obtain ⟨q, hq, hz⟩ := x1
    rw [drZ_nI hq hz (by decide)]
    rcases (show nxt q / 65536 % 2 = 0 ∨ nxt q / 65536 % 2 = 1 by omega) with e | e <;> rw [e] <;> decide
  · rw [if_neg c0, if_neg c0]
    exact ⟨h1, rfl, x1⟩
theorem RV_fall {β : zB} {z : zZ} (h : RV β z) (hx : xOk z) {c : Nat} (hc : c < 7) : ∀ r, r ≤ 8 → RV (fallN β c r).1 (falN z c r).1 ∧ (fallN β c r).2 = (falN z c r).2 ∧ xOk (falN z c r).1 := by
  intro r
  induction r with
  | zero => exact fun _ => ⟨h, rfl, hx⟩
  | succ r ih =>
    intro hr
    obtain ⟨i1, i2, i3⟩ := ih (by omega)
    have := RV_fs i1 i3 (r := r) (c := (falN z c r).2) (by omega) (falN_lt z hc r)
    simp only [fallN, falN]
    rw [i2]
    exact this

