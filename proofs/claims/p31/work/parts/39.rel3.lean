/-! A launch: what it leaves of the row; the relation -/
theorem spZ_at {z : zZ} {i : Nat} (h : (1 ≤ i ∧ i ≤ 6) ∨ (12 ≤ i ∧ i ≤ 16) ∨ 20 ≤ i) : spZ z i = z i := by
  unfold spZ spZ4
  split
  · split
    · simp (disch := omega) only [va_ne, spZ3, spZ2, spZ1, spZr, dZ]
    · simp (disch := omega) only [va_ne, spZ3, spZ2, spZ1, spZr, dZ]
  · simp (disch := omega) only [va_ne, spZ3, spZ2, spZ1, spZr, dZ]
theorem spZ_10 {z : zZ} : spZ z 10 = z 14 ∨ spZ z 10 = 0 := by
  unfold spZ spZ4
  split
  · split
    · left
      simp (disch := omega) only [va_ne, vat, spZ3, spZ2, spZ1, spZr, dZ]
    · right; rw [vat]
  · right; rw [vat]
theorem lz2_at {z : zZ} {i : Nat} (h : i = 2 ∨ (4 ≤ i ∧ i ≤ 6) ∨ (12 ≤ i ∧ i ≤ 16) ∨ 20 ≤ i) : lz2 (lz1 z) i = z i := by
  have e : lz1 z i = z i := by unfold lz1; rw [va_ne (by omega), va_ne (by omega)]
  unfold lz2
  split
  · exact e
  · split
    · rw [spZ_at (by omega)]; exact e
    · exact e
theorem lz2_3 {z : zZ} : lz2 (lz1 z) 3 = z 3 + 1 := by
  have e : lz1 z 3 = z 3 + 1 := by unfold lz1; rw [vat]
  unfold lz2
  split
  · exact e
  · split
    · rw [spZ_at (by omega)]; exact e
    · exact e
theorem lz2_10 {z : zZ} (h : 0 ≤ z 10) (h2 : 0 ≤ z 14) : 0 ≤ lz2 (lz1 z) 10 := by
  have e : lz1 z 10 = z 10 := by unfold lz1; rw [va_ne (by omega), va_ne (by omega)]
  have e2 : lz1 z 14 = z 14 := by unfold lz1; rw [va_ne (by omega), va_ne (by omega)]
  unfold lz2
  split
  · rw [e]; exact h
  · split
    · rcases spZ_10 (z := lz1 z) with q | q <;> rw [q]
      · rw [e2]; exact h2
      · decide
    · rw [e]; exact h
theorem lzA_at {z : zZ} {c i : Nat} (h : i = 2 ∨ (4 ≤ i ∧ i ≤ 6) ∨ (12 ≤ i ∧ i ≤ 16) ∨ (20 ≤ i ∧ i < 167)) : (lzA z c).1 i = z i := by
  unfold lzA
  rw [falN_keep _ (by omega) 8 (by omega)]
  exact lz2_at (by omega)
theorem lzA_3 {z : zZ} {c : Nat} : (lzA z c).1 3 = z 3 + 1 := by
  unfold lzA
  rw [falN_keep _ (by omega) 8 (by omega)]
  exact lz2_3
theorem lzA_10 {z : zZ} {c : Nat} (h : 0 ≤ z 10) (h2 : 0 ≤ z 14) : 0 ≤ (lzA z c).1 10 := by
  unfold lzA
  rw [falN_keep _ (by omega) 8 (by omega)]
  exact lz2_10 h h2
theorem comeZ_at {z : zZ} {p i : Nat} (hp : p < 7) (h : i = 0 ∨ i = 2 ∨ i = 3 ∨ i = 7 ∨ i = 8 ∨ i = 9 ∨ i = 11 ∨ (13 ≤ i ∧ i < 132)) : comeZ z p i = z i := by
  unfold comeZ czB cz7 cz6 czA cz5 cz4 cz3 cz2 cz1
  split <;> simp (disch := omega) only [va_ne]
theorem comeZ_ky {z : zZ} {p q : Nat} (hp : p < 7) (hq : q < 7) : comeZ z p (132 + 5 * q) = z (132 + 5 * q) ∧ comeZ z p (132 + 5 * q + 1) = z (132 + 5 * q + 1) := by
  unfold comeZ czB cz7 cz6 czA cz5 cz4 cz3 cz2 cz1
  constructor <;> split <;> simp (disch := omega) only [va_ne]
theorem comeZ_4 {z : zZ} {p : Nat} (hp : p < 7) : comeZ z p 4 = z 4 + comeZr z p := by
  unfold comeZ comeZr czB cz7 cz6 czA cz5 cz4 cz3 cz2 cz1
  split <;> simp (disch := omega) only [va_ne, vat]
theorem i32_pred {x : Int32} (h : 0 < x) : 0 ≤ x - 1 := by
  obtain ⟨j, hj, rfl⟩ := nI_of (fun q => absurd (Int32.lt_trans h q) (Int32.lt_irrefl))
  have h1 := (nI_ltI (a := 0) (by omega) hj).mp h
  rw [show j = (j - 1) + 1 by omega, nI_pred]
  exact nI_pos' (by omega)
theorem comeZ_10 {z : zZ} {p : Nat} (hp : p < 7) (h : 0 ≤ z 10) : 0 ≤ comeZ z p 10 := by
  have e : comeZ z p 10 = z 10 - (if z (132 + 5 * p) = 1 then (if isOpenZ z p = 0 then 0 else 1) else 0) := by
    unfold comeZ czB cz7 cz6 czA cz5 cz4 cz3 cz2 cz1
    split <;> simp (disch := omega) only [va_ne, vat]
  rw [e]
  by_cases c : z (132 + 5 * p) = 1
  · rw [if_pos c]
    by_cases o : isOpenZ z p = 0
    · rw [if_pos o, Int32.sub_zero]; exact h
    · rw [if_neg o]
      refine i32_pred ?_
      unfold isOpenZ at o
      rw [c, if_neg (by decide), if_pos rfl] at o
      exact Int32.not_le.mp (fun q => o (if_pos q))
  · rw [if_neg c, Int32.sub_zero]; exact h
theorem lz5_at {z : zZ} {p i : Nat} (h : i ≠ 7) : lz5 z p i = z i := va_ne h
/-- cells of the row after a launch -/
theorem lchZ_at {z : zZ} {c i : Nat} (hc : c < 7) (h : i = 2 ∨ (13 ≤ i ∧ i ≤ 16) ∨ (20 ≤ i ∧ i < 132)) : lchZ z c i = z i := by
  unfold lchZ
  rw [lz5_at (by omega), comeZ_at (lzA_lt z hc) (by omega)]
  exact lzA_at (by omega)
theorem lchZ_ky {z : zZ} {c q : Nat} (hc : c < 7) (hq : q < 7) : lchZ z c (132 + 5 * q) = z (132 + 5 * q) ∧ lchZ z c (132 + 5 * q + 1) = z (132 + 5 * q + 1) := by
  unfold lchZ
  rw [lz5_at (by omega), lz5_at (by omega), (comeZ_ky (lzA_lt z hc) hq).1, (comeZ_ky (lzA_lt z hc) hq).2]
  exact ⟨lzA_at (by omega), lzA_at (by omega)⟩
theorem lchZ_3 {z : zZ} {c : Nat} (hc : c < 7) : lchZ z c 3 = z 3 + 1 := by
  unfold lchZ
  rw [lz5_at (by omega), comeZ_at (lzA_lt z hc) (by omega)]
  exact lzA_3
theorem lchZ_4 {z : zZ} {c : Nat} (hc : c < 7) : lchZ z c 4 = z 4 + lchZr z c := by
  unfold lchZ lchZr
  rw [lz5_at (by omega), comeZ_4 (lzA_lt z hc), lzA_at (by omega)]
theorem lchZ_10 {z : zZ} {c : Nat} (hc : c < 7) (h : 0 ≤ z 10) (h2 : 0 ≤ z 14) : 0 ≤ lchZ z c 10 := by
  unfold lchZ
  rw [lz5_at (by omega)]
  exact comeZ_10 (lzA_lt z hc) (lzA_10 h h2)
theorem lchZr_k {B : Nat} {z : zZ} (h : ZI B z) {c : Nat} (hc : c < 7) : ∃ q, q ≤ 15 ∧ lchZr z c = nI q := by
  unfold lchZr comeZr czO
  split
  · exact ⟨0, by omega, rfl⟩
  · have hl := lzA_lt z hc
    rw [lzA_at (by omega)]
    exact (h.2.2.2.2.1 _ hl).2
theorem ZI_lch {B : Nat} {z : zZ} (h : ZI B z) {c : Nat} (hc : c < 7) : ZI (B + 1) (lchZ z c) := by
  obtain ⟨q, hq, er⟩ := lchZr_k h hc
  obtain ⟨h1, h2, h3, h4, h5, q1, q2, e1, e2, b1, b2⟩ := h
  refine ⟨lchZ_x h1 hc, pinZ_of h2 (fun i a1 a2 => lchZ_at hc (by omega)), lchZ_10 hc h3 h4, ?_, fun p hp => ?_, q1 + 1, q2 + q, ?_, ?_, by omega, by omega⟩
  · rw [lchZ_at hc (by omega)]; exact h4
  · rw [(lchZ_ky hc hp).1, (lchZ_ky hc hp).2]; exact h5 p hp
  · rw [lchZ_3 hc, e1, nI_1]
  · rw [lchZ_4 hc, e2, er, nI_add]
theorem RV_lch {B : Nat} {β : zB} {z : zZ} (h : RV β z) (hi : ZI B z) {c : Nat} (hc : c < 7) : RV (lchB β c) (lchZ z c) ∧ lchR β c = lchZr z c := by
  have n0 := h.n (i := 0) (by omega)
  have n2 := h.n (i := 2) (by omega)
  have h1 : RV (lch1 β) (lz1 z) := by
    unfold lch1 lz1
    rw [n0, n2]
    exact RV_num (RV_num h (i := 0) (by omega) _) (i := 2) (by omega) _
  have x1 : xOk (lz1 z) := xOk_up (xOk_up hi.x (by omega)) (by omega)
  have z10 : lz1 z 10 = z 10 := by unfold lz1; rw [va_ne (by omega), va_ne (by omega)]
  have h2 : RV (lch2 (lch1 β)) (lz2 (lz1 z)) ∧ xOk (lz2 (lz1 z)) := by
    refine ⟨?_, lz2_x hi.x⟩
    have m6 := h1.n (i := 6) (by omega)
    have m9 := h1.n (i := 9) (by omega)
    unfold lch2 lz2
    rw [m6, m9]
    by_cases c1 : lz1 z (6 + 1) ≤ 0
    · rw [if_pos c1, if_pos c1]; exact h1
    · rw [if_neg c1, if_neg c1]
      by_cases c2 : lz1 z (9 + 1) = 0
      · rw [if_pos c2, if_pos (b2_eq.mpr (by rw [c2]; decide)), ← m6]
        exact RV_spin h1 x1
      · rw [if_neg c2, if_neg (fun q => c2 (Int32.le_antisymm (Int32.not_lt.mp (b2_eq.mp q)) (by rw [show 9 + 1 = 10 from rfl, z10]; exact hi.2.2.1)))]
        exact h1
  obtain ⟨f1, f2, f3⟩ := RV_fall h2.1 h2.2 hc 8 (by omega)
  have hl := lzA_lt z hc
  have hk := (hi.2.2.2.2.1 _ hl).1
  rw [← lzA_at (z := z) (c := c) (i := 132 + 5 * (lzA z c).2) (by omega)] at hk
  have g1 : RV (lchA β c).1 (lzA z c).1 := f1
  have g2 : (lchA β c).2 = (lzA z c).2 := f2
  obtain ⟨k1, k2⟩ := RV_come g1 hl hk
  unfold lchB lchR lchZ lchZr
  rw [g2]
  refine ⟨?_, k2⟩
  generalize comeB (lch4 (lchA β c).1 (lzA z c).2) (lzA z c).2 = γ at k1 ⊢
  generalize comeZ (lzA z c).1 (lzA z c).2 = y at k1 ⊢
  have m6 := k1.n (i := 6) (by omega)
  have m12 := k1.n (i := 12) (by omega)
  unfold lch5 lz5
  rw [m12, m6]
  by_cases c1 : nI (lzA z c).2 = y (12 + 1)
  · rw [if_pos c1, if_pos c1]
    by_cases c2 : 4 ≤ y (6 + 1)
    · rw [if_pos c2, if_pos c2, up_id]; exact k1
    · rw [if_neg c2, if_neg c2]
      exact RV_num k1 (i := 6) (by omega) _
  · rw [if_neg c1, if_neg c1, up_id]; exact k1

