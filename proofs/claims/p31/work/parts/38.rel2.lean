/-! A ball comes to a pocket; a launch -/
/-- what holds of the reference's row; B bounds the launches and the bends -/
def ZI (B : Nat) (z : zZ) : Prop := xOk z ∧ pinZ z ∧ 0 ≤ z 10 ∧ 0 ≤ z 14 ∧ (∀ p, p < 7 → (z (132 + 5 * p) = 0 ∨ z (132 + 5 * p) = 1 ∨ z (132 + 5 * p) = 2) ∧ ∃ q, q ≤ 15 ∧ z (132 + 5 * p + 1) = nI q) ∧ (∃ q r, z 3 = nI q ∧ z 4 = nI r ∧ r ≤ 15 * q ∧ q ≤ B)
theorem ZI.x {B : Nat} {z : zZ} (h : ZI B z) : xOk z := h.1
theorem ZI.p {B : Nat} {z : zZ} (h : ZI B z) : pinZ z := h.2.1
theorem RV_open {β : zB} {z : zZ} (h : RV β z) {p : Nat} (hp : p < 7) (hk : z (132 + 5 * p) = 0 ∨ z (132 + 5 * p) = 1 ∨ z (132 + 5 * p) = 2) : isOpenV β p = isOpenZ z p := by
  have e4 := h.k hp
  have e6 := h.o hp
  have e9 := h.n (i := 9) (by omega)
  unfold isOpenV isOpenZ b2
  rw [e4]
  rcases hk with e | e | e
  · rw [e, if_neg (show ¬ (0 : Int32) = 1 by decide), if_neg (show ¬ (0 : Int32) = 2 by decide), if_pos rfl]
  · rw [e, if_pos rfl, if_neg (show ¬ (1 : Int32) = 0 by decide), if_pos rfl, e9]
    by_cases c : (0 : Int32) < z (9 + 1)
    · rw [if_pos c, if_neg (Int32.not_le.mpr c)]
    · rw [if_neg c, if_pos (Int32.not_lt.mp c)]
  · rw [e, if_neg (show ¬ (2 : Int32) = 1 by decide), if_pos rfl, if_neg (show ¬ (2 : Int32) = 0 by decide), if_neg (show ¬ (2 : Int32) = 1 by decide), e6 (e4.trans e)]
theorem lch4_k {β : zB} {p j : Nat} (h : j ≠ 0) : lch4 β p j = β j := u2ne h
theorem lch4_o {β : zB} {p : Nat} : isOpenV (lch4 β p) p = isOpenV β p := by
  have h0 : lch4 β p 0 9 = β 0 9 := by unfold lch4; rw [u2at, va_ne (by omega)]
  unfold isOpenV
  rw [h0, lch4_k (j := 4) (by omega), lch4_k (j := 6) (by omega)]

theorem i3_01 : ((0 : Int32) = 1) = False := eq_false (by decide)
theorem i3_02 : ((0 : Int32) = 2) = False := eq_false (by decide)
theorem i3_10 : ((1 : Int32) = 0) = False := eq_false (by decide)
theorem i3_12 : ((1 : Int32) = 2) = False := eq_false (by decide)
theorem i3_20 : ((2 : Int32) = 0) = False := eq_false (by decide)
theorem i3_21 : ((2 : Int32) = 1) = False := eq_false (by decide)
theorem RV_come_010 {β : zB} {z : zZ} (h : RV β z) {p : Nat} (hp : p < 7) (c4 : z (132 + 5 * p) = 0) (co : isOpenZ z p = 1) (c5 : ¬ z (132 + 5 * p + 1) = 0) : RV (comeB (lch4 β p) p) (comeZ z p) ∧ comeR (lch4 β p) p = comeZr z p := by
  have ho : isOpenV (lch4 β p) p = 1 := (lch4_o.trans (RV_open h hp (by rw [c4]; decide))).trans co
  have e4 : β 4 p = 0 := (h.k hp).trans c4
  have e5 : β 5 p = z (132 + 5 * p + 1) := h.y hp
  have e7 : β 7 p = z (132 + 5 * p + 3) := h.c hp
  have e8 : β 8 p = z (132 + 5 * p + 4) := h.g hp
  have n0 : β 0 0 = z 1 := h.n (i := 0) (by omega)
  have n1 : β 0 1 = z 2 := h.n (i := 1) (by omega)
  have n2 : β 0 2 = z 3 := h.n (i := 2) (by omega)
  have n3 : β 0 3 = z 4 := h.n (i := 3) (by omega)
  have n4 : β 0 4 = z 5 := h.n (i := 4) (by omega)
  have n5 : β 0 5 = z 6 := h.n (i := 5) (by omega)
  have n6 : β 0 6 = z 7 := h.n (i := 6) (by omega)
  have n7 : β 0 7 = z 8 := h.n (i := 7) (by omega)
  have n8 : β 0 8 = z 9 := h.n (i := 8) (by omega)
  have n9 : β 0 9 = z 10 := h.n (i := 9) (by omega)
  have n10 : β 0 10 = z 11 := h.n (i := 10) (by omega)
  have n11 : β 0 11 = z 12 := h.n (i := 11) (by omega)
  have n12 : β 0 12 = z 13 := h.n (i := 12) (by omega)
  have hq : comeR (lch4 β p) p = comeZr z p := by
    unfold comeR comeZr czO
    rw [ho, co]
    rw [if_neg (by decide), if_neg (by decide), lch4_k (by omega)]
    exact h.y hp
  refine ⟨?_, hq⟩
  unfold comeB comeB2 comeB1 comeZ
  rw [ho, co, c4]
  have l4 : lch4 β p 4 p = 0 := by rw [lch4_k (by omega)]; exact e4
  rw [l4]
  simp (disch := omega) only [payB, lch4, czB, czA, cz1, cz2, cz3, cz4, cz5, cz6, cz7, czO, u2ne, u2at, va_ne, vat, c4, e4, e5, c5, reduceIte, eq_self, i3_01, i3_02, i3_10, i3_12, i3_20, i3_21]
  refine ⟨fun q q1 => ?_, ⟨?_, ?_, ?_⟩, fun q q1 => ?_, fun q q1 => ?_, fun q q1 => ?_, fun q q1 => ?_, fun q q1 q2 => ?_, fun q q1 => ?_, fun q q1 => ?_, fun q q1 => ?_⟩
  · revert q1; revert q; refine ca13 ?_ ?_ ?_ ?_ ?_ ?_ ?_ ?_ ?_ ?_ ?_ ?_ ?_ <;> simp (disch := omega) only [u2ne, u2at, va_ne, vat, n0, n1, n2, n3, n4, n5, n6, n7, n8, n9, n10, n11, n12, e5, e7, e8, Int32.add_zero, Int32.sub_zero]
  · (try simp (disch := omega) only [u2ne, u2at, va_ne, vat])
    exact h.x
  · (try simp (disch := omega) only [u2ne, u2at, va_ne, vat])
    exact h.s1
  · (try simp (disch := omega) only [u2ne, u2at, va_ne, vat])
    exact h.s2
  · (try simp (disch := omega) only [u2ne, u2at, va_ne, vat])
    exact h.p q1
  · (try simp (disch := omega) only [u2ne, u2at, va_ne, vat])
    exact h.t q1
  · by_cases e : q = p
    · subst e
      (try simp (disch := omega) only [u2ne, u2at, va_ne, vat]); exact h.k hp
    · (try simp (disch := omega) only [u2ne, u2at, va_ne, vat]); exact h.k q1
  · by_cases e : q = p
    · subst e
      (try simp (disch := omega) only [u2ne, u2at, va_ne, vat]); exact h.y hp
    · (try simp (disch := omega) only [u2ne, u2at, va_ne, vat]); exact h.y q1
  · by_cases e : q = p
    · subst e
      (try simp (disch := omega) only [u2ne, u2at, va_ne, vat] at q2); exact absurd (e4.symm.trans q2) (by decide)
    · (try simp (disch := omega) only [u2ne, u2at, va_ne, vat] at q2); (try simp (disch := omega) only [u2ne, u2at, va_ne, vat]); exact h.o q1 q2
  · by_cases e : q = p
    · subst e
      simp (disch := omega) only [u2ne, u2at, va_ne, vat, e7, e8, e5, Int32.add_zero]
    · (try simp (disch := omega) only [u2ne, u2at, va_ne, vat]); exact h.c q1
  · by_cases e : q = p
    · subst e
      simp (disch := omega) only [u2ne, u2at, va_ne, vat, e7, e8, e5, Int32.add_zero]
    · (try simp (disch := omega) only [u2ne, u2at, va_ne, vat]); exact h.g q1
  · (try simp (disch := omega) only [u2ne, u2at, va_ne, vat])
    exact h.w q1
theorem RV_come_011 {β : zB} {z : zZ} (h : RV β z) {p : Nat} (hp : p < 7) (c4 : z (132 + 5 * p) = 0) (co : isOpenZ z p = 1) (c5 : z (132 + 5 * p + 1) = 0) : RV (comeB (lch4 β p) p) (comeZ z p) ∧ comeR (lch4 β p) p = comeZr z p := by
  have ho : isOpenV (lch4 β p) p = 1 := (lch4_o.trans (RV_open h hp (by rw [c4]; decide))).trans co
  have e4 : β 4 p = 0 := (h.k hp).trans c4
  have e5 : β 5 p = z (132 + 5 * p + 1) := h.y hp
  have e7 : β 7 p = z (132 + 5 * p + 3) := h.c hp
  have e8 : β 8 p = z (132 + 5 * p + 4) := h.g hp
  have n0 : β 0 0 = z 1 := h.n (i := 0) (by omega)
  have n1 : β 0 1 = z 2 := h.n (i := 1) (by omega)
  have n2 : β 0 2 = z 3 := h.n (i := 2) (by omega)
  have n3 : β 0 3 = z 4 := h.n (i := 3) (by omega)
  have n4 : β 0 4 = z 5 := h.n (i := 4) (by omega)
  have n5 : β 0 5 = z 6 := h.n (i := 5) (by omega)
  have n6 : β 0 6 = z 7 := h.n (i := 6) (by omega)
  have n7 : β 0 7 = z 8 := h.n (i := 7) (by omega)
  have n8 : β 0 8 = z 9 := h.n (i := 8) (by omega)
  have n9 : β 0 9 = z 10 := h.n (i := 9) (by omega)
  have n10 : β 0 10 = z 11 := h.n (i := 10) (by omega)
  have n11 : β 0 11 = z 12 := h.n (i := 11) (by omega)
  have n12 : β 0 12 = z 13 := h.n (i := 12) (by omega)
  rw [c5] at e5
  have hq : comeR (lch4 β p) p = comeZr z p := by
    unfold comeR comeZr czO
    rw [ho, co]
    rw [if_neg (by decide), if_neg (by decide), lch4_k (by omega)]
    exact h.y hp
  refine ⟨?_, hq⟩
  unfold comeB comeB2 comeB1 comeZ
  rw [ho, co, c4]
  have l4 : lch4 β p 4 p = 0 := by rw [lch4_k (by omega)]; exact e4
  rw [l4]
  simp (disch := omega) only [payB, lch4, czB, czA, cz1, cz2, cz3, cz4, cz5, cz6, cz7, czO, u2ne, u2at, va_ne, vat, c4, e4, e5, c5, reduceIte, eq_self, i3_01, i3_02, i3_10, i3_12, i3_20, i3_21]
  refine ⟨fun q q1 => ?_, ⟨?_, ?_, ?_⟩, fun q q1 => ?_, fun q q1 => ?_, fun q q1 => ?_, fun q q1 => ?_, fun q q1 q2 => ?_, fun q q1 => ?_, fun q q1 => ?_, fun q q1 => ?_⟩
  · revert q1; revert q; refine ca13 ?_ ?_ ?_ ?_ ?_ ?_ ?_ ?_ ?_ ?_ ?_ ?_ ?_ <;> simp (disch := omega) only [u2ne, u2at, va_ne, vat, n0, n1, n2, n3, n4, n5, n6, n7, n8, n9, n10, n11, n12, e5, e7, e8, Int32.add_zero, Int32.sub_zero]
  · (try simp (disch := omega) only [u2ne, u2at, va_ne, vat])
    exact h.x
  · (try simp (disch := omega) only [u2ne, u2at, va_ne, vat])
    exact h.s1
  · (try simp (disch := omega) only [u2ne, u2at, va_ne, vat])
    exact h.s2
  · (try simp (disch := omega) only [u2ne, u2at, va_ne, vat])
    exact h.p q1
  · (try simp (disch := omega) only [u2ne, u2at, va_ne, vat])
    exact h.t q1
  · by_cases e : q = p
    · subst e
      (try simp (disch := omega) only [u2ne, u2at, va_ne, vat]); exact h.k hp
    · (try simp (disch := omega) only [u2ne, u2at, va_ne, vat]); exact h.k q1
  · by_cases e : q = p
    · subst e
      (try simp (disch := omega) only [u2ne, u2at, va_ne, vat]); exact h.y hp
    · (try simp (disch := omega) only [u2ne, u2at, va_ne, vat]); exact h.y q1
  · by_cases e : q = p
    · subst e
      (try simp (disch := omega) only [u2ne, u2at, va_ne, vat] at q2); exact absurd (e4.symm.trans q2) (by decide)
    · (try simp (disch := omega) only [u2ne, u2at, va_ne, vat] at q2); (try simp (disch := omega) only [u2ne, u2at, va_ne, vat]); exact h.o q1 q2
  · by_cases e : q = p
    · subst e
      simp (disch := omega) only [u2ne, u2at, va_ne, vat, e7, e8, e5, Int32.add_zero]
    · (try simp (disch := omega) only [u2ne, u2at, va_ne, vat]); exact h.c q1
  · by_cases e : q = p
    · subst e
      simp (disch := omega) only [u2ne, u2at, va_ne, vat, e7, e8, e5, Int32.add_zero]
    · (try simp (disch := omega) only [u2ne, u2at, va_ne, vat]); exact h.g q1
  · (try simp (disch := omega) only [u2ne, u2at, va_ne, vat])
    exact h.w q1
theorem RV_come_100 {β : zB} {z : zZ} (h : RV β z) {p : Nat} (hp : p < 7) (c4 : z (132 + 5 * p) = 1) (co : isOpenZ z p = 0) : RV (comeB (lch4 β p) p) (comeZ z p) ∧ comeR (lch4 β p) p = comeZr z p := by
  have ho : isOpenV (lch4 β p) p = 0 := (lch4_o.trans (RV_open h hp (by rw [c4]; decide))).trans co
  have e4 : β 4 p = 1 := (h.k hp).trans c4
  have e5 : β 5 p = z (132 + 5 * p + 1) := h.y hp
  have e7 : β 7 p = z (132 + 5 * p + 3) := h.c hp
  have e8 : β 8 p = z (132 + 5 * p + 4) := h.g hp
  have n0 : β 0 0 = z 1 := h.n (i := 0) (by omega)
  have n1 : β 0 1 = z 2 := h.n (i := 1) (by omega)
  have n2 : β 0 2 = z 3 := h.n (i := 2) (by omega)
  have n3 : β 0 3 = z 4 := h.n (i := 3) (by omega)
  have n4 : β 0 4 = z 5 := h.n (i := 4) (by omega)
  have n5 : β 0 5 = z 6 := h.n (i := 5) (by omega)
  have n6 : β 0 6 = z 7 := h.n (i := 6) (by omega)
  have n7 : β 0 7 = z 8 := h.n (i := 7) (by omega)
  have n8 : β 0 8 = z 9 := h.n (i := 8) (by omega)
  have n9 : β 0 9 = z 10 := h.n (i := 9) (by omega)
  have n10 : β 0 10 = z 11 := h.n (i := 10) (by omega)
  have n11 : β 0 11 = z 12 := h.n (i := 11) (by omega)
  have n12 : β 0 12 = z 13 := h.n (i := 12) (by omega)
  have hq : comeR (lch4 β p) p = comeZr z p := by
    unfold comeR comeZr czO
    rw [ho, co]
    rfl
  refine ⟨?_, hq⟩
  unfold comeB comeB2 comeB1 comeZ
  rw [ho, co, c4]
  have l4 : lch4 β p 4 p = 1 := by rw [lch4_k (by omega)]; exact e4
  rw [l4]
  simp (disch := omega) only [payB, lch4, czB, czA, cz1, cz2, cz3, cz4, cz5, cz6, cz7, czO, u2ne, u2at, va_ne, vat, c4, e4, e5, reduceIte, eq_self, i3_01, i3_02, i3_10, i3_12, i3_20, i3_21]
  refine ⟨fun q q1 => ?_, ⟨?_, ?_, ?_⟩, fun q q1 => ?_, fun q q1 => ?_, fun q q1 => ?_, fun q q1 => ?_, fun q q1 q2 => ?_, fun q q1 => ?_, fun q q1 => ?_, fun q q1 => ?_⟩
  · revert q1; revert q; refine ca13 ?_ ?_ ?_ ?_ ?_ ?_ ?_ ?_ ?_ ?_ ?_ ?_ ?_ <;> simp (disch := omega) only [u2ne, u2at, va_ne, vat, n0, n1, n2, n3, n4, n5, n6, n7, n8, n9, n10, n11, n12, e5, e7, e8, Int32.add_zero, Int32.sub_zero]
  · (try simp (disch := omega) only [u2ne, u2at, va_ne, vat])
    exact h.x
  · (try simp (disch := omega) only [u2ne, u2at, va_ne, vat])
    exact h.s1
  · (try simp (disch := omega) only [u2ne, u2at, va_ne, vat])
    exact h.s2
  · (try simp (disch := omega) only [u2ne, u2at, va_ne, vat])
    exact h.p q1
  · (try simp (disch := omega) only [u2ne, u2at, va_ne, vat])
    exact h.t q1
  · by_cases e : q = p
    · subst e
      (try simp (disch := omega) only [u2ne, u2at, va_ne, vat]); exact h.k hp
    · (try simp (disch := omega) only [u2ne, u2at, va_ne, vat]); exact h.k q1
  · by_cases e : q = p
    · subst e
      (try simp (disch := omega) only [u2ne, u2at, va_ne, vat]); exact h.y hp
    · (try simp (disch := omega) only [u2ne, u2at, va_ne, vat]); exact h.y q1
  · by_cases e : q = p
    · subst e
      (try simp (disch := omega) only [u2ne, u2at, va_ne, vat] at q2); exact absurd (e4.symm.trans q2) (by decide)
    · (try simp (disch := omega) only [u2ne, u2at, va_ne, vat] at q2); (try simp (disch := omega) only [u2ne, u2at, va_ne, vat]); exact h.o q1 q2
  · by_cases e : q = p
    · subst e
      simp (disch := omega) only [u2ne, u2at, va_ne, vat, e7, e8, e5, Int32.add_zero]
    · (try simp (disch := omega) only [u2ne, u2at, va_ne, vat]); exact h.c q1
  · by_cases e : q = p
    · subst e
      simp (disch := omega) only [u2ne, u2at, va_ne, vat, e7, e8, e5, Int32.add_zero]
    · (try simp (disch := omega) only [u2ne, u2at, va_ne, vat]); exact h.g q1
  · (try simp (disch := omega) only [u2ne, u2at, va_ne, vat])
    exact h.w q1
theorem RV_come_110 {β : zB} {z : zZ} (h : RV β z) {p : Nat} (hp : p < 7) (c4 : z (132 + 5 * p) = 1) (co : isOpenZ z p = 1) (c5 : ¬ z (132 + 5 * p + 1) = 0) : RV (comeB (lch4 β p) p) (comeZ z p) ∧ comeR (lch4 β p) p = comeZr z p := by
  have ho : isOpenV (lch4 β p) p = 1 := (lch4_o.trans (RV_open h hp (by rw [c4]; decide))).trans co
  have e4 : β 4 p = 1 := (h.k hp).trans c4
  have e5 : β 5 p = z (132 + 5 * p + 1) := h.y hp
  have e7 : β 7 p = z (132 + 5 * p + 3) := h.c hp
  have e8 : β 8 p = z (132 + 5 * p + 4) := h.g hp
  have n0 : β 0 0 = z 1 := h.n (i := 0) (by omega)
  have n1 : β 0 1 = z 2 := h.n (i := 1) (by omega)
  have n2 : β 0 2 = z 3 := h.n (i := 2) (by omega)
  have n3 : β 0 3 = z 4 := h.n (i := 3) (by omega)
  have n4 : β 0 4 = z 5 := h.n (i := 4) (by omega)
  have n5 : β 0 5 = z 6 := h.n (i := 5) (by omega)
  have n6 : β 0 6 = z 7 := h.n (i := 6) (by omega)
  have n7 : β 0 7 = z 8 := h.n (i := 7) (by omega)
  have n8 : β 0 8 = z 9 := h.n (i := 8) (by omega)
  have n9 : β 0 9 = z 10 := h.n (i := 9) (by omega)
  have n10 : β 0 10 = z 11 := h.n (i := 10) (by omega)
  have n11 : β 0 11 = z 12 := h.n (i := 11) (by omega)
  have n12 : β 0 12 = z 13 := h.n (i := 12) (by omega)
  have hq : comeR (lch4 β p) p = comeZr z p := by
    unfold comeR comeZr czO
    rw [ho, co]
    rw [if_neg (by decide), if_neg (by decide), lch4_k (by omega)]
    exact h.y hp
  refine ⟨?_, hq⟩
  unfold comeB comeB2 comeB1 comeZ
  rw [ho, co, c4]
  have l4 : lch4 β p 4 p = 1 := by rw [lch4_k (by omega)]; exact e4
  rw [l4]
  simp (disch := omega) only [payB, lch4, czB, czA, cz1, cz2, cz3, cz4, cz5, cz6, cz7, czO, u2ne, u2at, va_ne, vat, c4, e4, e5, c5, reduceIte, eq_self, i3_01, i3_02, i3_10, i3_12, i3_20, i3_21]
  refine ⟨fun q q1 => ?_, ⟨?_, ?_, ?_⟩, fun q q1 => ?_, fun q q1 => ?_, fun q q1 => ?_, fun q q1 => ?_, fun q q1 q2 => ?_, fun q q1 => ?_, fun q q1 => ?_, fun q q1 => ?_⟩
  · revert q1; revert q; refine ca13 ?_ ?_ ?_ ?_ ?_ ?_ ?_ ?_ ?_ ?_ ?_ ?_ ?_ <;> simp (disch := omega) only [u2ne, u2at, va_ne, vat, n0, n1, n2, n3, n4, n5, n6, n7, n8, n9, n10, n11, n12, e5, e7, e8, Int32.add_zero, Int32.sub_zero]
  · (try simp (disch := omega) only [u2ne, u2at, va_ne, vat])
    exact h.x
  · (try simp (disch := omega) only [u2ne, u2at, va_ne, vat])
    exact h.s1
  · (try simp (disch := omega) only [u2ne, u2at, va_ne, vat])
    exact h.s2
  · (try simp (disch := omega) only [u2ne, u2at, va_ne, vat])
    exact h.p q1
  · (try simp (disch := omega) only [u2ne, u2at, va_ne, vat])
    exact h.t q1
  · by_cases e : q = p
    · subst e
      (try simp (disch := omega) only [u2ne, u2at, va_ne, vat]); exact h.k hp
    · (try simp (disch := omega) only [u2ne, u2at, va_ne, vat]); exact h.k q1
  · by_cases e : q = p
    · subst e
      (try simp (disch := omega) only [u2ne, u2at, va_ne, vat]); exact h.y hp
    · (try simp (disch := omega) only [u2ne, u2at, va_ne, vat]); exact h.y q1
  · by_cases e : q = p
    · subst e
      (try simp (disch := omega) only [u2ne, u2at, va_ne, vat] at q2); exact absurd (e4.symm.trans q2) (by decide)
    · (try simp (disch := omega) only [u2ne, u2at, va_ne, vat] at q2); (try simp (disch := omega) only [u2ne, u2at, va_ne, vat]); exact h.o q1 q2
  · by_cases e : q = p
    · subst e
      simp (disch := omega) only [u2ne, u2at, va_ne, vat, e7, e8, e5, Int32.add_zero]
    · (try simp (disch := omega) only [u2ne, u2at, va_ne, vat]); exact h.c q1
  · by_cases e : q = p
    · subst e
      simp (disch := omega) only [u2ne, u2at, va_ne, vat, e7, e8, e5, Int32.add_zero]
    · (try simp (disch := omega) only [u2ne, u2at, va_ne, vat]); exact h.g q1
  · (try simp (disch := omega) only [u2ne, u2at, va_ne, vat])
    exact h.w q1
theorem RV_come_111 {β : zB} {z : zZ} (h : RV β z) {p : Nat} (hp : p < 7) (c4 : z (132 + 5 * p) = 1) (co : isOpenZ z p = 1) (c5 : z (132 + 5 * p + 1) = 0) : RV (comeB (lch4 β p) p) (comeZ z p) ∧ comeR (lch4 β p) p = comeZr z p := by
  have ho : isOpenV (lch4 β p) p = 1 := (lch4_o.trans (RV_open h hp (by rw [c4]; decide))).trans co
  have e4 : β 4 p = 1 := (h.k hp).trans c4
  have e5 : β 5 p = z (132 + 5 * p + 1) := h.y hp
  have e7 : β 7 p = z (132 + 5 * p + 3) := h.c hp
  have e8 : β 8 p = z (132 + 5 * p + 4) := h.g hp
  have n0 : β 0 0 = z 1 := h.n (i := 0) (by omega)
  have n1 : β 0 1 = z 2 := h.n (i := 1) (by omega)
  have n2 : β 0 2 = z 3 := h.n (i := 2) (by omega)
  have n3 : β 0 3 = z 4 := h.n (i := 3) (by omega)
  have n4 : β 0 4 = z 5 := h.n (i := 4) (by omega)
  have n5 : β 0 5 = z 6 := h.n (i := 5) (by omega)
  have n6 : β 0 6 = z 7 := h.n (i := 6) (by omega)
  have n7 : β 0 7 = z 8 := h.n (i := 7) (by omega)
  have n8 : β 0 8 = z 9 := h.n (i := 8) (by omega)
  have n9 : β 0 9 = z 10 := h.n (i := 9) (by omega)
  have n10 : β 0 10 = z 11 := h.n (i := 10) (by omega)
  have n11 : β 0 11 = z 12 := h.n (i := 11) (by omega)
  have n12 : β 0 12 = z 13 := h.n (i := 12) (by omega)
  rw [c5] at e5
  have hq : comeR (lch4 β p) p = comeZr z p := by
    unfold comeR comeZr czO
    rw [ho, co]
    rw [if_neg (by decide), if_neg (by decide), lch4_k (by omega)]
    exact h.y hp
  refine ⟨?_, hq⟩
  unfold comeB comeB2 comeB1 comeZ
  rw [ho, co, c4]
  have l4 : lch4 β p 4 p = 1 := by rw [lch4_k (by omega)]; exact e4
  rw [l4]
  simp (disch := omega) only [payB, lch4, czB, czA, cz1, cz2, cz3, cz4, cz5, cz6, cz7, czO, u2ne, u2at, va_ne, vat, c4, e4, e5, c5, reduceIte, eq_self, i3_01, i3_02, i3_10, i3_12, i3_20, i3_21]
  refine ⟨fun q q1 => ?_, ⟨?_, ?_, ?_⟩, fun q q1 => ?_, fun q q1 => ?_, fun q q1 => ?_, fun q q1 => ?_, fun q q1 q2 => ?_, fun q q1 => ?_, fun q q1 => ?_, fun q q1 => ?_⟩
  · revert q1; revert q; refine ca13 ?_ ?_ ?_ ?_ ?_ ?_ ?_ ?_ ?_ ?_ ?_ ?_ ?_ <;> simp (disch := omega) only [u2ne, u2at, va_ne, vat, n0, n1, n2, n3, n4, n5, n6, n7, n8, n9, n10, n11, n12, e5, e7, e8, Int32.add_zero, Int32.sub_zero]
  · (try simp (disch := omega) only [u2ne, u2at, va_ne, vat])
    exact h.x
  · (try simp (disch := omega) only [u2ne, u2at, va_ne, vat])
    exact h.s1
  · (try simp (disch := omega) only [u2ne, u2at, va_ne, vat])
    exact h.s2
  · (try simp (disch := omega) only [u2ne, u2at, va_ne, vat])
    exact h.p q1
  · (try simp (disch := omega) only [u2ne, u2at, va_ne, vat])
    exact h.t q1
  · by_cases e : q = p
    · subst e
      (try simp (disch := omega) only [u2ne, u2at, va_ne, vat]); exact h.k hp
    · (try simp (disch := omega) only [u2ne, u2at, va_ne, vat]); exact h.k q1
  · by_cases e : q = p
    · subst e
      (try simp (disch := omega) only [u2ne, u2at, va_ne, vat]); exact h.y hp
    · (try simp (disch := omega) only [u2ne, u2at, va_ne, vat]); exact h.y q1
  · by_cases e : q = p
    · subst e
      (try simp (disch := omega) only [u2ne, u2at, va_ne, vat] at q2); exact absurd (e4.symm.trans q2) (by decide)
    · (try simp (disch := omega) only [u2ne, u2at, va_ne, vat] at q2); (try simp (disch := omega) only [u2ne, u2at, va_ne, vat]); exact h.o q1 q2
  · by_cases e : q = p
    · subst e
      simp (disch := omega) only [u2ne, u2at, va_ne, vat, e7, e8, e5, Int32.add_zero]
    · (try simp (disch := omega) only [u2ne, u2at, va_ne, vat]); exact h.c q1
  · by_cases e : q = p
    · subst e
      simp (disch := omega) only [u2ne, u2at, va_ne, vat, e7, e8, e5, Int32.add_zero]
    · (try simp (disch := omega) only [u2ne, u2at, va_ne, vat]); exact h.g q1
  · (try simp (disch := omega) only [u2ne, u2at, va_ne, vat])
    exact h.w q1
theorem RV_come_200 {β : zB} {z : zZ} (h : RV β z) {p : Nat} (hp : p < 7) (c4 : z (132 + 5 * p) = 2) (co : isOpenZ z p = 0) : RV (comeB (lch4 β p) p) (comeZ z p) ∧ comeR (lch4 β p) p = comeZr z p := by
  have ho : isOpenV (lch4 β p) p = 0 := (lch4_o.trans (RV_open h hp (by rw [c4]; decide))).trans co
  have e4 : β 4 p = 2 := (h.k hp).trans c4
  have e5 : β 5 p = z (132 + 5 * p + 1) := h.y hp
  have e7 : β 7 p = z (132 + 5 * p + 3) := h.c hp
  have e8 : β 8 p = z (132 + 5 * p + 4) := h.g hp
  have n0 : β 0 0 = z 1 := h.n (i := 0) (by omega)
  have n1 : β 0 1 = z 2 := h.n (i := 1) (by omega)
  have n2 : β 0 2 = z 3 := h.n (i := 2) (by omega)
  have n3 : β 0 3 = z 4 := h.n (i := 3) (by omega)
  have n4 : β 0 4 = z 5 := h.n (i := 4) (by omega)
  have n5 : β 0 5 = z 6 := h.n (i := 5) (by omega)
  have n6 : β 0 6 = z 7 := h.n (i := 6) (by omega)
  have n7 : β 0 7 = z 8 := h.n (i := 7) (by omega)
  have n8 : β 0 8 = z 9 := h.n (i := 8) (by omega)
  have n9 : β 0 9 = z 10 := h.n (i := 9) (by omega)
  have n10 : β 0 10 = z 11 := h.n (i := 10) (by omega)
  have n11 : β 0 11 = z 12 := h.n (i := 11) (by omega)
  have n12 : β 0 12 = z 13 := h.n (i := 12) (by omega)
  have hq : comeR (lch4 β p) p = comeZr z p := by
    unfold comeR comeZr czO
    rw [ho, co]
    rfl
  refine ⟨?_, hq⟩
  unfold comeB comeB2 comeB1 comeZ
  rw [ho, co, c4]
  have l4 : lch4 β p 4 p = 2 := by rw [lch4_k (by omega)]; exact e4
  rw [l4]
  simp (disch := omega) only [payB, lch4, czB, czA, cz1, cz2, cz3, cz4, cz5, cz6, cz7, czO, u2ne, u2at, va_ne, vat, c4, e4, e5, reduceIte, eq_self, i3_01, i3_02, i3_10, i3_12, i3_20, i3_21]
  refine ⟨fun q q1 => ?_, ⟨?_, ?_, ?_⟩, fun q q1 => ?_, fun q q1 => ?_, fun q q1 => ?_, fun q q1 => ?_, fun q q1 q2 => ?_, fun q q1 => ?_, fun q q1 => ?_, fun q q1 => ?_⟩
  · revert q1; revert q; refine ca13 ?_ ?_ ?_ ?_ ?_ ?_ ?_ ?_ ?_ ?_ ?_ ?_ ?_ <;> simp (disch := omega) only [u2ne, u2at, va_ne, vat, n0, n1, n2, n3, n4, n5, n6, n7, n8, n9, n10, n11, n12, e5, e7, e8, Int32.add_zero, Int32.sub_zero]
  · (try simp (disch := omega) only [u2ne, u2at, va_ne, vat])
    exact h.x
  · (try simp (disch := omega) only [u2ne, u2at, va_ne, vat])
    exact h.s1
  · (try simp (disch := omega) only [u2ne, u2at, va_ne, vat])
    exact h.s2
  · (try simp (disch := omega) only [u2ne, u2at, va_ne, vat])
    exact h.p q1
  · (try simp (disch := omega) only [u2ne, u2at, va_ne, vat])
    exact h.t q1
  · by_cases e : q = p
    · subst e
      (try simp (disch := omega) only [u2ne, u2at, va_ne, vat]); exact h.k hp
    · (try simp (disch := omega) only [u2ne, u2at, va_ne, vat]); exact h.k q1
  · by_cases e : q = p
    · subst e
      (try simp (disch := omega) only [u2ne, u2at, va_ne, vat]); exact h.y hp
    · (try simp (disch := omega) only [u2ne, u2at, va_ne, vat]); exact h.y q1
  · by_cases e : q = p
    · subst e
      (try simp (disch := omega) only [u2ne, u2at, va_ne, vat] at q2); simp (disch := omega) only [u2ne, u2at, va_ne, vat]
    · (try simp (disch := omega) only [u2ne, u2at, va_ne, vat] at q2); (try simp (disch := omega) only [u2ne, u2at, va_ne, vat]); exact h.o q1 q2
  · by_cases e : q = p
    · subst e
      simp (disch := omega) only [u2ne, u2at, va_ne, vat, e7, e8, e5, Int32.add_zero]
    · (try simp (disch := omega) only [u2ne, u2at, va_ne, vat]); exact h.c q1
  · by_cases e : q = p
    · subst e
      simp (disch := omega) only [u2ne, u2at, va_ne, vat, e7, e8, e5, Int32.add_zero]
    · (try simp (disch := omega) only [u2ne, u2at, va_ne, vat]); exact h.g q1
  · (try simp (disch := omega) only [u2ne, u2at, va_ne, vat])
    exact h.w q1
theorem RV_come_210 {β : zB} {z : zZ} (h : RV β z) {p : Nat} (hp : p < 7) (c4 : z (132 + 5 * p) = 2) (co : isOpenZ z p = 1) (c5 : ¬ z (132 + 5 * p + 1) = 0) : RV (comeB (lch4 β p) p) (comeZ z p) ∧ comeR (lch4 β p) p = comeZr z p := by
  have ho : isOpenV (lch4 β p) p = 1 := (lch4_o.trans (RV_open h hp (by rw [c4]; decide))).trans co
  have e4 : β 4 p = 2 := (h.k hp).trans c4
  have e5 : β 5 p = z (132 + 5 * p + 1) := h.y hp
  have e7 : β 7 p = z (132 + 5 * p + 3) := h.c hp
  have e8 : β 8 p = z (132 + 5 * p + 4) := h.g hp
  have n0 : β 0 0 = z 1 := h.n (i := 0) (by omega)
  have n1 : β 0 1 = z 2 := h.n (i := 1) (by omega)
  have n2 : β 0 2 = z 3 := h.n (i := 2) (by omega)
  have n3 : β 0 3 = z 4 := h.n (i := 3) (by omega)
  have n4 : β 0 4 = z 5 := h.n (i := 4) (by omega)
  have n5 : β 0 5 = z 6 := h.n (i := 5) (by omega)
  have n6 : β 0 6 = z 7 := h.n (i := 6) (by omega)
  have n7 : β 0 7 = z 8 := h.n (i := 7) (by omega)
  have n8 : β 0 8 = z 9 := h.n (i := 8) (by omega)
  have n9 : β 0 9 = z 10 := h.n (i := 9) (by omega)
  have n10 : β 0 10 = z 11 := h.n (i := 10) (by omega)
  have n11 : β 0 11 = z 12 := h.n (i := 11) (by omega)
  have n12 : β 0 12 = z 13 := h.n (i := 12) (by omega)
  have hq : comeR (lch4 β p) p = comeZr z p := by
    unfold comeR comeZr czO
    rw [ho, co]
    rw [if_neg (by decide), if_neg (by decide), lch4_k (by omega)]
    exact h.y hp
  refine ⟨?_, hq⟩
  unfold comeB comeB2 comeB1 comeZ
  rw [ho, co, c4]
  have l4 : lch4 β p 4 p = 2 := by rw [lch4_k (by omega)]; exact e4
  rw [l4]
  simp (disch := omega) only [payB, lch4, czB, czA, cz1, cz2, cz3, cz4, cz5, cz6, cz7, czO, u2ne, u2at, va_ne, vat, c4, e4, e5, c5, reduceIte, eq_self, i3_01, i3_02, i3_10, i3_12, i3_20, i3_21]
  refine ⟨fun q q1 => ?_, ⟨?_, ?_, ?_⟩, fun q q1 => ?_, fun q q1 => ?_, fun q q1 => ?_, fun q q1 => ?_, fun q q1 q2 => ?_, fun q q1 => ?_, fun q q1 => ?_, fun q q1 => ?_⟩
  · revert q1; revert q; refine ca13 ?_ ?_ ?_ ?_ ?_ ?_ ?_ ?_ ?_ ?_ ?_ ?_ ?_ <;> simp (disch := omega) only [u2ne, u2at, va_ne, vat, n0, n1, n2, n3, n4, n5, n6, n7, n8, n9, n10, n11, n12, e5, e7, e8, Int32.add_zero, Int32.sub_zero]
  · (try simp (disch := omega) only [u2ne, u2at, va_ne, vat])
    exact h.x
  · (try simp (disch := omega) only [u2ne, u2at, va_ne, vat])
    exact h.s1
  · (try simp (disch := omega) only [u2ne, u2at, va_ne, vat])
    exact h.s2
  · (try simp (disch := omega) only [u2ne, u2at, va_ne, vat])
    exact h.p q1
  · (try simp (disch := omega) only [u2ne, u2at, va_ne, vat])
    exact h.t q1
  · by_cases e : q = p
    · subst e
      (try simp (disch := omega) only [u2ne, u2at, va_ne, vat]); exact h.k hp
    · (try simp (disch := omega) only [u2ne, u2at, va_ne, vat]); exact h.k q1
  · by_cases e : q = p
    · subst e
      (try simp (disch := omega) only [u2ne, u2at, va_ne, vat]); exact h.y hp
    · (try simp (disch := omega) only [u2ne, u2at, va_ne, vat]); exact h.y q1
  · by_cases e : q = p
    · subst e
      (try simp (disch := omega) only [u2ne, u2at, va_ne, vat] at q2); simp (disch := omega) only [u2ne, u2at, va_ne, vat]
    · (try simp (disch := omega) only [u2ne, u2at, va_ne, vat] at q2); (try simp (disch := omega) only [u2ne, u2at, va_ne, vat]); exact h.o q1 q2
  · by_cases e : q = p
    · subst e
      simp (disch := omega) only [u2ne, u2at, va_ne, vat, e7, e8, e5, Int32.add_zero]
    · (try simp (disch := omega) only [u2ne, u2at, va_ne, vat]); exact h.c q1
  · by_cases e : q = p
    · subst e
      simp (disch := omega) only [u2ne, u2at, va_ne, vat, e7, e8, e5, Int32.add_zero]
    · (try simp (disch := omega) only [u2ne, u2at, va_ne, vat]); exact h.g q1
  · (try simp (disch := omega) only [u2ne, u2at, va_ne, vat])
    exact h.w q1
theorem RV_come_211 {β : zB} {z : zZ} (h : RV β z) {p : Nat} (hp : p < 7) (c4 : z (132 + 5 * p) = 2) (co : isOpenZ z p = 1) (c5 : z (132 + 5 * p + 1) = 0) : RV (comeB (lch4 β p) p) (comeZ z p) ∧ comeR (lch4 β p) p = comeZr z p := by
  have ho : isOpenV (lch4 β p) p = 1 := (lch4_o.trans (RV_open h hp (by rw [c4]; decide))).trans co
  have e4 : β 4 p = 2 := (h.k hp).trans c4
  have e5 : β 5 p = z (132 + 5 * p + 1) := h.y hp
  have e7 : β 7 p = z (132 + 5 * p + 3) := h.c hp
  have e8 : β 8 p = z (132 + 5 * p + 4) := h.g hp
  have n0 : β 0 0 = z 1 := h.n (i := 0) (by omega)
  have n1 : β 0 1 = z 2 := h.n (i := 1) (by omega)
  have n2 : β 0 2 = z 3 := h.n (i := 2) (by omega)
  have n3 : β 0 3 = z 4 := h.n (i := 3) (by omega)
  have n4 : β 0 4 = z 5 := h.n (i := 4) (by omega)
  have n5 : β 0 5 = z 6 := h.n (i := 5) (by omega)
  have n6 : β 0 6 = z 7 := h.n (i := 6) (by omega)
  have n7 : β 0 7 = z 8 := h.n (i := 7) (by omega)
  have n8 : β 0 8 = z 9 := h.n (i := 8) (by omega)
  have n9 : β 0 9 = z 10 := h.n (i := 9) (by omega)
  have n10 : β 0 10 = z 11 := h.n (i := 10) (by omega)
  have n11 : β 0 11 = z 12 := h.n (i := 11) (by omega)
  have n12 : β 0 12 = z 13 := h.n (i := 12) (by omega)
  rw [c5] at e5
  have hq : comeR (lch4 β p) p = comeZr z p := by
    unfold comeR comeZr czO
    rw [ho, co]
    rw [if_neg (by decide), if_neg (by decide), lch4_k (by omega)]
    exact h.y hp
  refine ⟨?_, hq⟩
  unfold comeB comeB2 comeB1 comeZ
  rw [ho, co, c4]
  have l4 : lch4 β p 4 p = 2 := by rw [lch4_k (by omega)]; exact e4
  rw [l4]
  simp (disch := omega) only [payB, lch4, czB, czA, cz1, cz2, cz3, cz4, cz5, cz6, cz7, czO, u2ne, u2at, va_ne, vat, c4, e4, e5, c5, reduceIte, eq_self, i3_01, i3_02, i3_10, i3_12, i3_20, i3_21]
  refine ⟨fun q q1 => ?_, ⟨?_, ?_, ?_⟩, fun q q1 => ?_, fun q q1 => ?_, fun q q1 => ?_, fun q q1 => ?_, fun q q1 q2 => ?_, fun q q1 => ?_, fun q q1 => ?_, fun q q1 => ?_⟩
  · revert q1; revert q; refine ca13 ?_ ?_ ?_ ?_ ?_ ?_ ?_ ?_ ?_ ?_ ?_ ?_ ?_ <;> simp (disch := omega) only [u2ne, u2at, va_ne, vat, n0, n1, n2, n3, n4, n5, n6, n7, n8, n9, n10, n11, n12, e5, e7, e8, Int32.add_zero, Int32.sub_zero]
  · (try simp (disch := omega) only [u2ne, u2at, va_ne, vat])
    exact h.x
  · (try simp (disch := omega) only [u2ne, u2at, va_ne, vat])
    exact h.s1
  · (try simp (disch := omega) only [u2ne, u2at, va_ne, vat])
    exact h.s2
  · (try simp (disch := omega) only [u2ne, u2at, va_ne, vat])
    exact h.p q1
  · (try simp (disch := omega) only [u2ne, u2at, va_ne, vat])
    exact h.t q1
  · by_cases e : q = p
    · subst e
      (try simp (disch := omega) only [u2ne, u2at, va_ne, vat]); exact h.k hp
    · (try simp (disch := omega) only [u2ne, u2at, va_ne, vat]); exact h.k q1
  · by_cases e : q = p
    · subst e
      (try simp (disch := omega) only [u2ne, u2at, va_ne, vat]); exact h.y hp
    · (try simp (disch := omega) only [u2ne, u2at, va_ne, vat]); exact h.y q1
  · by_cases e : q = p
    · subst e
      (try simp (disch := omega) only [u2ne, u2at, va_ne, vat] at q2); simp (disch := omega) only [u2ne, u2at, va_ne, vat]
    · (try simp (disch := omega) only [u2ne, u2at, va_ne, vat] at q2); (try simp (disch := omega) only [u2ne, u2at, va_ne, vat]); exact h.o q1 q2
  · by_cases e : q = p
    · subst e
      simp (disch := omega) only [u2ne, u2at, va_ne, vat, e7, e8, e5, Int32.add_zero]
    · (try simp (disch := omega) only [u2ne, u2at, va_ne, vat]); exact h.c q1
  · by_cases e : q = p
    · subst e
      simp (disch := omega) only [u2ne, u2at, va_ne, vat, e7, e8, e5, Int32.add_zero]
    · (try simp (disch := omega) only [u2ne, u2at, va_ne, vat]); exact h.g q1
  · (try simp (disch := omega) only [u2ne, u2at, va_ne, vat])
    exact h.w q1
theorem RV_come {β : zB} {z : zZ} (h : RV β z) {p : Nat} (hp : p < 7) (hk : z (132 + 5 * p) = 0 ∨ z (132 + 5 * p) = 1 ∨ z (132 + 5 * p) = 2) : RV (comeB (lch4 β p) p) (comeZ z p) ∧ comeR (lch4 β p) p = comeZr z p := by
  by_cases c5 : z (132 + 5 * p + 1) = 0 <;> rcases hk with c4 | c4 | c4
  · exact RV_come_011 h hp c4 (by unfold isOpenZ; rw [if_pos c4]) c5
  · by_cases co : isOpenZ z p = 0
    · exact RV_come_100 h hp c4 co
    · exact RV_come_111 h hp c4 (isOpenZ_1 co) c5
  · by_cases co : isOpenZ z p = 0
    · exact RV_come_200 h hp c4 co
    · exact RV_come_211 h hp c4 (isOpenZ_1 co) c5
  · exact RV_come_010 h hp c4 (by unfold isOpenZ; rw [if_pos c4]) c5
  · by_cases co : isOpenZ z p = 0
    · exact RV_come_100 h hp c4 co
    · exact RV_come_110 h hp c4 (isOpenZ_1 co) c5
  · by_cases co : isOpenZ z p = 0
    · exact RV_come_200 h hp c4 co
    · exact RV_come_210 h hp c4 (isOpenZ_1 co) c5
