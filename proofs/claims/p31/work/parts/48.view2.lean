/-! A ball comes; a launch of the law is that of the row -/
theorem opL_eq {z : zZ} {g k : Nat → Int32} (h : VG z g) (hk : VK z k) {p : Nat} (hp : p < 7) (h3 : z (132 + 5 * p) = 0 ∨ z (132 + 5 * p) = 1 ∨ z (132 + 5 * p) = 2) : opL g k p = isOpenZ z p := by
  have e0 : k (5 * p) = z (132 + 5 * p) := hk _ (by omega)
  have e2 : k ((5 * p) + 2) = z (132 + 5 * p + 2) := hk _ (by omega)
  have e9 : g 9 = z 10 := h 9 (by omega)
  unfold opL opT isOpenZ
  rw [e0, e2, e9]
  rcases h3 with q | q | q
  · rw [q, if_pos rfl, if_pos rfl]
  · rw [q, if_neg (show ¬ (1 : Int32) = 0 by decide), if_neg (show ¬ (1 : Int32) = 0 by decide), if_pos rfl, if_pos rfl, if_neg (show ¬ (1 : Int32) = 2 by decide)]
    by_cases c : z 10 ≤ 0
    · rw [if_pos c, if_neg (Int32.not_lt.mpr c)]
    · rw [if_neg c, if_pos (Int32.not_le.mp c)]
  · rw [q, if_neg (show ¬ (2 : Int32) = 0 by decide), if_neg (show ¬ (2 : Int32) = 0 by decide), if_neg (show ¬ (2 : Int32) = 1 by decide), if_neg (show ¬ (2 : Int32) = 1 by decide), if_pos rfl]
theorem isOpenZ_01 (z : zZ) (p : Nat) : isOpenZ z p = 0 ∨ isOpenZ z p = 1 := by
  unfold isOpenZ
  repeat' split
  all_goals first | exact Or.inl rfl | exact Or.inr rfl
/-- the law's numbers after the parts of a coming, in the reference's order -/
theorem coG_sw (g : Nat → Int32) (o b : Int32) : coG4 (coG3 (coG2 g b) o) o b = va_up (va_up (coG4 (coG3 g o) o b) 3 (coG4 (coG3 g o) o b 3 + b)) 0 (coG4 (coG3 g o) o b 0 + b) := by
  funext i
  unfold coG4 coG3 coG2
  by_cases e0 : i = 0
  · subst e0
    simp (disch := omega) only [va_ne, vat]
  by_cases e3 : i = 3
  · subst e3
    simp (disch := omega) only [va_ne, vat]
  by_cases e4 : i = 4
  · subst e4
    simp (disch := omega) only [va_ne, vat]
  by_cases e5 : i = 5
  · subst e5
    simp (disch := omega) only [va_ne, vat]
  simp (disch := omega) only [va_ne, vat]
def VI (z : zZ) : Prop := 0 ≤ z 11 ∧ 0 ≤ z 15 ∧ (∀ p, p < 7 → z (132 + 5 * p + 2) = 0 ∨ z (132 + 5 * p + 2) = 1) ∧ z 1 = z 2 + z 4 - z 3
theorem V_come {z : zZ} {g k : Nat → Int32} (h : VG z g) (hk : VK z k) {p : Nat} (hp : p < 7) (h3 : z (132 + 5 * p) = 0 ∨ z (132 + 5 * p) = 1 ∨ z (132 + 5 * p) = 2) (h2 : z (132 + 5 * p + 2) = 0 ∨ z (132 + 5 * p + 2) = 1) :
    VG (lz5 (comeZ z p) p) (coG g k p) ∧ VK (lz5 (comeZ z p) p) (coK g k p) ∧ blL k p (opL g k p) = comeZr z p := by
  have e0 : k (5 * p) = z (132 + 5 * p) := hk _ (by omega)
  have e1 : k ((5 * p) + 1) = z (132 + 5 * p + 1) := hk _ (by omega)
  have e2 : k ((5 * p) + 2) = z (132 + 5 * p + 2) := hk _ (by omega)
  have eo := opL_eq h hk hp h3
  have ek : coK1 k p (5 * p) = z (132 + 5 * p) := by
    unfold coK1
    split
    · rw [va_ne (by omega), e0]
    · exact e0
  have eb : blL k p (opL g k p) = comeZr z p := by
    unfold blL comeZr czO
    rw [eo, e1]
  refine ⟨?_, ?_, eb⟩
  · unfold coG
    rw [ek, eb, eo, coG_sw]
    unfold comeZ comeZr
    generalize isOpenZ z p = o
    generalize hbb : czO z p o = b
    have s1 : VG (cz1 z p o) g := by
      unfold cz1
      split
      · exact h.o (by omega)
      · exact h
    have s2 : VG (cz2 (cz1 z p o) (z (132 + 5 * p)) o) (coG1 g (z (132 + 5 * p)) o) := by
      unfold cz2 coG1
      split
      · split
        · rw [up_id']
          exact s1
        · exact s1.u (by omega) rfl (by rw [s1 9 (by omega)]; rfl)
      · rw [up_id']
        exact s1
    have s3 : VG (cz3 (cz2 (cz1 z p o) (z (132 + 5 * p)) o) o) (coG3 (coG1 g (z (132 + 5 * p)) o) o) := s2.u (by omega) rfl (by rw [s2 4 (by omega)]; rfl)
    have s4 : VG (cz4 (cz3 (cz2 (cz1 z p o) (z (132 + 5 * p)) o) o) o b) (coG4 (coG3 (coG1 g (z (132 + 5 * p)) o) o) o b) := s3.u (by omega) rfl (by rw [s3 5 (by omega)]; rfl)
    generalize coG4 (coG3 (coG1 g (z (132 + 5 * p)) o) o) o b = g4 at s4
    have s5 : VG (czA z p o (z (132 + 5 * p)) b) (va_up (va_up g4 3 (g4 3 + b)) 0 (g4 0 + b)) := (s4.u (by omega) rfl (by rw [s4 3 (by omega)]; rfl)).u (by omega) rfl (by rw [s4 0 (by omega)]; rfl)
    have s6 : VG (czB z p o (z (132 + 5 * p)) b) (coG5 (va_up (va_up g4 3 (g4 3 + b)) 0 (g4 0 + b)) p) := ((s5.o (by omega)).o (by omega)).u (by omega) rfl rfl
    generalize coG5 (va_up (va_up g4 3 (g4 3 + b)) 0 (g4 0 + b)) p = g5 at s6
    generalize czB z p o (z (132 + 5 * p)) b = y at s6
    have f12 : g5 12 = y 13 := s6 12 (by omega)
    have f6 : g5 6 = y 7 := s6 6 (by omega)
    unfold lz5 coG6
    rw [f12, f6]
    split
    · split
      · rw [up_id]
        exact s6
      · exact s6.u (by omega) rfl rfl
    · rw [up_id]
      exact s6
  · unfold coK
    rw [eb]
    unfold comeZ comeZr
    have s1 : VK (cz1 z p (isOpenZ z p)) (coK1 k p) := by
      unfold cz1 coK1
      rw [e0]
      by_cases c : z (132 + 5 * p) = 2
      · rw [if_pos c, if_pos c]
        refine hk.u (by omega) ?_
        rw [e2]
        have c2 : isOpenZ z p = if z (132 + 5 * p + 2) = 1 then 1 else 0 := by
          unfold isOpenZ
          rw [c, if_neg (show ¬ (2 : Int32) = 0 by decide), if_neg (show ¬ (2 : Int32) = 1 by decide)]
        rw [c2]
        rcases h2 with q | q <;> rw [q] <;> rfl
      · rw [if_neg c, if_neg c]
        exact hk
    generalize isOpenZ z p = o at s1
    generalize hbb : czO z p o = b
    have s5 : VK (czA z p o (z (132 + 5 * p)) b) (coK1 k p) := ((((s1.o (by omega)).o (by omega)).o (by omega)).o (by omega)).o (by omega)
    have s7 : VK (cz7 (cz6 (czA z p o (z (132 + 5 * p)) b) p) p b) (coK2 (coK1 k p) p b) := by
      have f3 : coK1 k p ((5 * p) + 3) = czA z p o (z (132 + 5 * p)) b (132 + 5 * p + 3) := s5 _ (by omega)
      have f4 : coK1 k p ((5 * p) + 4) = czA z p o (z (132 + 5 * p)) b (132 + 5 * p + 4) := s5 _ (by omega)
      have s6 : VK (cz6 (czA z p o (z (132 + 5 * p)) b) p) (va_up (coK1 k p) ((5 * p) + 3) (coK1 k p ((5 * p) + 3) + 1)) := s5.u (by omega) (by rw [f3])
      exact s6.u (by omega) (by rw [f4]; unfold cz6; rw [va_ne (by omega)])
    exact (s7.o (by omega)).o (by omega)
/-- a launch -/
theorem V_lch {B : Nat} {z : zZ} {g pins k t : Nat → Int32} (hz : ZI B z) (hv : VI z) (h : VG z g) (hp : VP z pins) (hk : VK z k) (ht : VT z t) {c : Nat} (hc : c < 7) :
    VG (lchZ z c) (lG pins g k t c) ∧ VP (lchZ z c) pins ∧ VK (lchZ z c) (lK pins g k t c) ∧ VT (lchZ z c) (lT pins g t c) ∧ lV pins g k t c = lchZr z c := by
  have x2 : xOk (lz2 (lz1 z)) := lz2_x hz.x
  have ht2 : VT (lz2 (lz1 z)) t := ht.of (fun i h1 h2 => lz2_at (by omega))
  have hp2 : VP (lz2 (lz1 z)) pins := hp.of (fun i h1 h2 => lz2_at (by omega))
  have hI : VG (lzA z c).1 (lF pins g t c).1.1 ∧ VT (lzA z c).1 (lF pins g t c).1.2 ∧ (lF pins g t c).2 = (lzA z c).2 ∧ xOk (lzA z c).1 := by
    unfold lzA lF
    exact V_fal (VG_lc2 h hz.x hv.1) ht2 hp2 x2 hc 8 (Nat.le_refl _)
  obtain ⟨i1, i2, e3, i4⟩ := hI
  have hlt : (lzA z c).2 < 7 := lzA_lt z hc
  have ek : ∀ i, 132 ≤ i → i < 167 → (lzA z c).1 i = z i := fun i h1 h2 => lzA_at (by omega)
  have hk2 : VK (lzA z c).1 k := hk.of ek
  have k2 := hv.2.2.1 _ hlt
  rw [← ek _ (by omega) (by omega)] at k2
  have hcm := V_come (g := (lF pins g t c).1.1) i1 hk2 hlt (by rw [ek (132 + 5 * (lzA z c).2) (by omega) (by omega)]; exact (hz.2.2.2.2.1 _ hlt).1) k2
  unfold lG lK lT lV
  rw [e3]
  have q4 : VT (lchZ z c) (lF pins g t c).1.2 := VT.of (z := (lzA z c).1) i2 (fun i h1 h2 => by
    unfold lchZ lz5
    rw [va_ne (by omega)]
    exact comeZ_keep _ _ (Or.inr (by omega)) (Or.inr h1) hlt)
  unfold lchZ lchZr at *
  exact ⟨hcm.1, hp.of (fun i h1 h2 => lchZ_at hc (by omega)), hcm.2.1, q4, hcm.2.2⟩
theorem spZ_11 {z : zZ} (h : 0 ≤ z 11) (h2 : 0 ≤ z 15) : 0 ≤ spZ z 11 := by
  have e : spZ3 (spZ2 (spZ1 z)) (spZm (spZ1 z)) 11 = spZ2 (spZ1 z) 11 := by
    unfold spZ3 spZr dZ
    simp (disch := omega) only [va_ne]
  have e15 : spZ3 (spZ2 (spZ1 z)) (spZm (spZ1 z)) 15 = z 15 := by
    unfold spZ3 spZr dZ spZ2 spZ1
    simp (disch := omega) only [va_ne]
  have f : 0 ≤ spZ2 (spZ1 z) 11 := by
    unfold spZ2
    rw [vat, spZ1_11]
    by_cases c : z 11 ≤ 0
    · rw [if_pos c, Int32.sub_zero]
      exact h
    · rw [if_neg c]
      exact i32_pred (Int32.not_le.mp c)
  unfold spZ spZ4
  split
  · split
    · rw [vat, e15]
      exact h2
    · rw [va_ne (by omega), e]
      exact f
  · rw [va_ne (by omega), e]
    exact f
theorem lz2_11 {z : zZ} (h : 0 ≤ z 11) (h2 : 0 ≤ z 15) : 0 ≤ lz2 (lz1 z) 11 := by
  have e : lz1 z 11 = z 11 := by unfold lz1; rw [va_ne (by omega), va_ne (by omega)]
  have e2 : lz1 z 15 = z 15 := by unfold lz1; rw [va_ne (by omega), va_ne (by omega)]
  unfold lz2
  split
  · rw [e]; exact h
  · split
    · exact spZ_11 (by rw [e]; exact h) (by rw [e2]; exact h2)
    · rw [e]; exact h
theorem comeZ_1 {z : zZ} {p : Nat} (hp : p < 7) : comeZ z p 1 = z 1 + comeZr z p := by
  unfold comeZ czB cz7 cz6 czA cz5 cz4 cz3 cz2 cz1 comeZr
  split <;> simp (disch := omega) only [va_ne, vat]
theorem comeZ_k2 {z : zZ} {p q : Nat} (hp : p < 7) (hq : q < 7) : comeZ z p (132 + 5 * q + 2) = z (132 + 5 * q + 2) ∨ comeZ z p (132 + 5 * q + 2) = 0 ∨ comeZ z p (132 + 5 * q + 2) = 1 := by
  have e : comeZ z p (132 + 5 * q + 2) = cz1 z p (isOpenZ z p) (132 + 5 * q + 2) := by
    unfold comeZ czB cz7 cz6 czA cz5 cz4 cz3 cz2
    simp (disch := omega) only [va_ne]
  rw [e]
  unfold cz1
  split
  · by_cases c : q = p
    · subst c
      rw [vat]
      split
      · exact Or.inr (Or.inr rfl)
      · exact Or.inr (Or.inl rfl)
    · rw [va_ne (by omega)]
      exact Or.inl rfl
  · exact Or.inl rfl
theorem lz2_1 {z : zZ} : lz2 (lz1 z) 1 = z 1 - 1 := by
  have e : lz1 z 1 = z 1 - 1 := by unfold lz1; rw [va_ne (by omega), vat]
  unfold lz2
  split
  · exact e
  · split
    · rw [spZ_at (by omega)]; exact e
    · exact e
theorem lchZ_1 {z : zZ} {c : Nat} (hc : c < 7) : lchZ z c 1 = z 1 - 1 + lchZr z c := by
  have hlt : (lzA z c).2 < 7 := lzA_lt z hc
  unfold lchZ lz5
  rw [va_ne (by omega), comeZ_1 hlt]
  have e : (lzA z c).1 1 = z 1 - 1 := by
    unfold lzA
    rw [falN_keep _ (by omega) 8 (by omega)]
    exact lz2_1
  rw [e]
  rfl
theorem VI_lch {z : zZ} (h : VI z) {c : Nat} (hc : c < 7) : VI (lchZ z c) := by
  have hlt : (lzA z c).2 < 7 := lzA_lt z hc
  obtain ⟨h1, h2, h3, h4⟩ := h
  refine ⟨?_, by rw [lchZ_at hc (by omega)]; exact h2, fun p hp => ?_, ?_⟩
  · unfold lchZ lz5
    rw [va_ne (by omega), comeZ_at hlt (by omega)]
    unfold lzA
    rw [falN_keep _ (by omega) 8 (by omega)]
    exact lz2_11 h1 h2
  · have e : lchZ z c (132 + 5 * p + 2) = comeZ (lzA z c).1 (lzA z c).2 (132 + 5 * p + 2) := by
      unfold lchZ lz5
      rw [va_ne (by omega)]
    rw [e]
    rcases comeZ_k2 (z := (lzA z c).1) hlt hp with q | q | q
    · rw [q, lzA_at (by omega)]
      exact h3 p hp
    · exact Or.inl q
    · exact Or.inr q
  · rw [lchZ_1 hc, lchZ_at hc (by omega), lchZ_3 hc, lchZ_4 hc, h4]
    generalize z 2 = a
    generalize z 4 = b
    generalize z 3 = d
    generalize lchZr z c = r
    apply Int32.toBitVec_inj.mp
    simp only [Int32.toBitVec_add, Int32.toBitVec_sub]
    generalize a.toBitVec = a
    generalize b.toBitVec = b
    generalize d.toBitVec = d
    generalize r.toBitVec = r
    show a + b - d - 1#32 + r = a + (b + r) - (d + 1#32)
    generalize (1#32) = u
    rw [BitVec.sub_eq_add_neg, BitVec.sub_eq_add_neg, BitVec.sub_eq_add_neg, BitVec.neg_add, BitVec.sub_eq_add_neg]
    ac_rfl
