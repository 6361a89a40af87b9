/-! Texts: the machine of states, and the reader of parts -/
theorem q_0 : ∀ q, q < 128 → stp 0 (nI q) = if q = 36 then 7 else if q = 98 then 4 else if q = 108 then 1 else -1 := by decide +kernel
theorem q_1 : ∀ q, q < 128 → stp 1 (nI q) = if 48 ≤ q ∧ q ≤ 54 then 2 else -1 := by decide +kernel
theorem q_2 : ∀ q, q < 128 → stp 2 (nI q) = if q = 120 then 3 else -1 := by decide +kernel
theorem q_3 : ∀ q, q < 128 → stp 3 (nI q) = if q = 49 ∨ q = 50 then 8 else if q = 51 then 9 else if 52 ≤ q ∧ q ≤ 57 then 10 else -1 := by decide +kernel
theorem q_4 : ∀ q, q < 128 → stp 4 (nI q) = if 48 ≤ q ∧ q ≤ 55 then 5 else -1 := by decide +kernel
theorem q_5 : ∀ q, q < 128 → stp 5 (nI q) = if 48 ≤ q ∧ q ≤ 54 then 6 else -1 := by decide +kernel
theorem q_6 : ∀ q, q < 128 → stp 6 (nI q) = if q = 60 ∨ q = 124 ∨ q = 62 then 10 else -1 := by decide +kernel
theorem q_7 : ∀ q, q < 128 → stp 7 (nI q) = if 49 ≤ q ∧ q ≤ 57 then 8 else -1 := by decide +kernel
theorem q_8 : ∀ q, q < 128 → stp 8 (nI q) = if 48 ≤ q ∧ q ≤ 57 then 10 else if q = 59 then 0 else -1 := by decide +kernel
theorem q_9 : ∀ q, q < 128 → stp 9 (nI q) = if q = 48 then 10 else if q = 59 then 0 else -1 := by decide +kernel
theorem q_10 : ∀ q, q < 128 → stp 10 (nI q) = if q = 59 then 0 else -1 := by decide +kernel
theorem q_n (c : Int32) : stp (-1) c = -1 := rfl
theorem q_in6 : ∀ q, q < 128 → (inV (nI q - 48) 0 6 = 0 ↔ ¬ (48 ≤ q ∧ q ≤ 54)) := by decide +kernel
theorem q_in7 : ∀ q, q < 128 → (inV (nI q - 48) 0 7 = 0 ↔ ¬ (48 ≤ q ∧ q ≤ 55)) := by decide +kernel
theorem q_d0 : ∀ q, q < 128 → (inV (nI q) 49 57 = 0 ↔ ¬ (49 ≤ q ∧ q ≤ 57)) := by decide +kernel
theorem q_d1 : ∀ q, q < 128 → (inV (nI q) 48 57 = 0 ↔ ¬ (48 ≤ q ∧ q ≤ 57)) := by decide +kernel
theorem stN_s (f : Nat → Int32) (j : Nat) : stN f (j + 1) = stp (stN f j) (f j) := rfl
theorem stN_n {f : Nat → Int32} {j : Nat} (h : stN f j = -1) : ∀ r, stN f (j + r) = -1
  | 0 => h
  | r + 1 => by
    rw [← Nat.add_assoc, stN_s, stN_n h r]
    exact q_n _
theorem errAt_go {f : Nat → Int32} : ∀ (r s j : Nat), (∀ i, j < i → i ≤ j + r → ¬ stN f i = -1) → errAt f (r + s) j = errAt f s (j + r)
  | 0, s, j, _ => by rw [Nat.zero_add]; rfl
  | r + 1, s, j, h => by
    rw [show r + 1 + s = (r + s) + 1 by omega]
    show (if stN f (j + 1) = -1 then j else errAt f (r + s) (j + 1)) = _
    rw [if_neg (h (j + 1) (by omega) (by omega)), errAt_go r s (j + 1) (fun i h1 h2 => h i (by omega) (by omega)), show j + 1 + r = j + (r + 1) by omega]
theorem errAt_1 {f : Nat → Int32} {a p L : Nat} (h1 : a ≤ p) (h2 : p < L) (h : ∀ i, a < i → i ≤ p → ¬ stN f i = -1) (he : stN f (p + 1) = -1) : errAt f (L - a) a = p := by
  rw [show L - a = (p - a) + ((L - p - 1) + 1) by omega, errAt_go (p - a) _ a (fun i i1 i2 => h i i1 (by omega)), show a + (p - a) = p by omega]
  exact if_pos he
theorem errAt_2 {f : Nat → Int32} {a p L : Nat} (h1 : a ≤ p) (h2 : p ≤ L) (h : ∀ i, a < i → i ≤ p → ¬ stN f i = -1) : errAt f (L - a) a = errAt f (L - p) p := by
  rw [show L - a = (p - a) + (L - p) by omega, errAt_go (p - a) _ a (fun i i1 i2 => h i i1 (by omega)), show a + (p - a) = p by omega]
/-- the codes are of characters -/
def chr (f : Nat → Int32) (Q : Nat → Nat) : Prop := ∀ i, f i = nI (Q i) ∧ Q i < 128
def aQ (Q : Nat → Nat) (L p : Nat) : Nat := if L ≤ p then 0 else Q p
theorem aQ_lt {Q : Nat → Nat} {L p : Nat} (h : aQ Q L p ≠ 0) : p < L ∧ aQ Q L p = Q p := by
  unfold aQ at *
  by_cases c : L ≤ p
  · rw [if_pos c] at h; exact absurd rfl h
  · rw [if_neg c]; exact ⟨by omega, rfl⟩
theorem aQ_in {Q : Nat → Nat} {L p : Nat} (h : p < L) : aQ Q L p = Q p := if_neg (by omega)
theorem aT_aQ {f : Nat → Int32} {Q : Nat → Nat} (h : chr f Q) (L p : Nat) : aT f L p = nI (aQ Q L p) ∧ aQ Q L p < 128 := by
  unfold aT aQ
  split
  · exact ⟨rfl, by omega⟩
  · exact h p
/-- a number, read -/
def rnX (Q : Nat → Nat) (L most b : Nat) : Nat × Nat := if 49 ≤ aQ Q L b ∧ aQ Q L b ≤ 57 then (if 48 ≤ aQ Q L (b + 1) ∧ aQ Q L (b + 1) ≤ 57 ∧ 10 * (aQ Q L b - 48) + (aQ Q L (b + 1) - 48) ≤ most then (10 * (aQ Q L b - 48) + (aQ Q L (b + 1) - 48), b + 2) else (aQ Q L b - 48, b + 1)) else (0, b)
theorem rnN_s {f : Nat → Int32} {Q : Nat → Nat} (h : chr f Q) {L most s p k : Nat} (hm : most ≤ 99) (hs : s ≤ 99) : rnN f L (nI most) (k + 1) (nI s, p) = if (if s = 0 then 49 else 48) ≤ aQ Q L p ∧ aQ Q L p ≤ 57 ∧ 10 * s + (aQ Q L p - 48) ≤ most then rnN f L (nI most) k (nI (10 * s + (aQ Q L p - 48)), p + 1) else (nI s, p) := by
  obtain ⟨e1, e2⟩ := aT_aQ h L p
  show (if rnC f L (nI s) p = 0 then (nI s, p) else if nI most < 10 * nI s + aT f L p - 48 then (nI s, p) else rnN f L (nI most) k (10 * nI s + aT f L p - 48, p + 1)) = _
  have hc : rnC f L (nI s) p = 0 ↔ ¬ ((if s = 0 then 49 else 48) ≤ aQ Q L p ∧ aQ Q L p ≤ 57) := by
    unfold rnC
    rw [e1]
    by_cases c : s = 0
    · subst c
      rw [if_pos rfl, if_pos (show nI 0 = 0 from rfl)]
      exact q_d0 _ e2
    · rw [if_neg (nI_ne0 (by omega) (by omega)), if_neg c]
      exact q_d1 _ e2
  by_cases c1 : (if s = 0 then 49 else 48) ≤ aQ Q L p ∧ aQ Q L p ≤ 57
  · have c3 : 48 ≤ aQ Q L p := by
      have := c1.1
      split at this <;> omega
    have e3 : (10 * nI s + aT f L p - 48 : Int32) = nI (10 * s + (aQ Q L p - 48)) := by
      rw [e1, show (10 : Int32) = nI 10 from rfl, zI_mul, zI_add, show (48 : Int32) = nI 48 from rfl, zI_sub (by omega)]
      exact congrArg nI (by omega)
    rw [if_neg (fun q => (hc.mp q) c1), e3]
    by_cases c2 : 10 * s + (aQ Q L p - 48) ≤ most
    · rw [if_neg (fun q => absurd ((nI_ltI (by omega) (by omega)).mp q) (by omega)), if_pos ⟨c1.1, c1.2, c2⟩]
    · rw [if_pos ((nI_ltI (by omega) (by omega)).mpr (by omega)), if_neg (fun q => c2 q.2.2)]
  · rw [if_pos (hc.mpr c1), if_neg (fun q => c1 ⟨q.1, q.2.1⟩)]
theorem rn_X {f : Nat → Int32} {Q : Nat → Nat} (h : chr f Q) {L most b : Nat} (hm : most ≤ 99) (hm9 : 9 ≤ most) (hb : b ≤ L) : rnQ f L (nI most) b = (nI (rnX Q L most b).1, (rnX Q L most b).2) := by
  unfold rnQ rnX
  by_cases c0 : 49 ≤ aQ Q L b ∧ aQ Q L b ≤ 57
  · have hb1 := (aQ_lt (Q := Q) (L := L) (p := b) (by omega)).1
    rw [if_pos c0, show L - b = (L - b - 1) + 1 by omega, show (0 : Int32) = nI 0 from rfl, rnN_s h hm (by omega), if_pos (by refine ⟨by rw [if_pos rfl]; exact c0.1, c0.2, by omega⟩)]
    rw [show 10 * 0 + (aQ Q L b - 48) = aQ Q L b - 48 by omega]
    by_cases c1 : 48 ≤ aQ Q L (b + 1) ∧ aQ Q L (b + 1) ≤ 57 ∧ 10 * (aQ Q L b - 48) + (aQ Q L (b + 1) - 48) ≤ most
    · have hb2 := (aQ_lt (Q := Q) (L := L) (p := b + 1) (by omega)).1
      rw [if_pos c1, show L - b - 1 = (L - b - 2) + 1 by omega, rnN_s h hm (by omega), if_pos (by refine ⟨by rw [if_neg (by omega)]; exact c1.1, c1.2.1, c1.2.2⟩)]
      by_cases c2 : L - b - 2 = 0
      · rw [c2]; rfl
      · rw [show L - b - 2 = (L - b - 3) + 1 by omega, rnN_s h hm (by omega), if_neg (fun q => absurd q.2.2 (by have := q.1; rw [if_neg (by omega)] at this; omega))]
    · rw [if_neg c1]
      by_cases c2 : L - b - 1 = 0
      · rw [c2]; rfl
      · rw [show L - b - 1 = (L - b - 2) + 1 by omega, rnN_s h hm (by omega), if_neg (fun q => c1 ⟨by have := q.1; rw [if_neg (by omega)] at this; exact this, q.2.1, q.2.2⟩)]
  · rw [if_neg c0]
    by_cases c2 : L - b = 0
    · rw [c2]; rfl
    · rw [show L - b = (L - b - 1) + 1 by omega, show (0 : Int32) = nI 0 from rfl, rnN_s h hm (by omega), if_neg (fun q => c0 ⟨by have := q.1; rw [if_pos rfl] at this; exact this, q.2.1⟩)]
/-- behind a number, and ahead of one -/
def good (f : Nat → Int32) (L b p : Nat) : Prop := b < p ∧ p ≤ L ∧ (∀ j, b < j → j ≤ p → ¬ stN f j = -1) ∧ 8 ≤ stN f p ∧ (∀ j, b ≤ j → j < p → ¬ f j = 59) ∧ (p < L → (f p = 59 → stN f (p + 1) = 0) ∧ (¬ f p = 59 → stN f (p + 1) = -1))
def bad (f : Nat → Int32) (L a p : Nat) : Prop := p ≤ L ∧ (∀ j, a < j → j ≤ p → ¬ stN f j = -1) ∧ (p < L → stN f (p + 1) = -1) ∧ stN f p < 8
theorem f59 {f : Nat → Int32} {Q : Nat → Nat} (h : chr f Q) (p : Nat) : f p = 59 ↔ Q p = 59 := by
  rw [(h p).1]
  have := (h p).2
  exact nI_eq (b := 59) (by omega) (by omega)
theorem num_rd {f : Nat → Int32} {Q : Nat → Nat} (h : chr f Q) {L most b : Nat} (hs : (stN f b = 3 ∧ most = 30) ∨ (stN f b = 7 ∧ most = 99)) (hb : b ≤ L) : ((rnX Q L most b).1 = 0 → (rnX Q L most b).2 = b ∧ bad f L b b) ∧ ((rnX Q L most b).1 ≠ 0 → good f L b (rnX Q L most b).2 ∧ (rnX Q L most b).1 ≤ most) := by
  have hq := (h b).2
  have hs1 : stN f (b + 1) = stp (stN f b) (nI (Q b)) := by rw [stN_s, (h b).1]
  have hq1 := (h (b + 1)).2
  have hs2 : stN f (b + 2) = stp (stN f (b + 1)) (nI (Q (b + 1))) := by rw [stN_s f (b + 1), (h (b + 1)).1]
  have hq2 := (h (b + 2)).2
  have hs3 : stN f (b + 3) = stp (stN f (b + 2)) (nI (Q (b + 2))) := by rw [stN_s f (b + 2), (h (b + 2)).1]
  have g0 := f59 h b
  have g1 := f59 h (b + 1)
  have g2 := f59 h (b + 2)
  have hst : ¬ stN f b = -1 ∧ stN f b < 8 := by rcases hs with ⟨e, -⟩ | ⟨e, -⟩ <;> rw [e] <;> exact ⟨by decide, by decide⟩
  unfold rnX
  by_cases c0 : 49 ≤ aQ Q L b ∧ aQ Q L b ≤ 57
  · obtain ⟨hb1, a0⟩ := aQ_lt (Q := Q) (L := L) (p := b) (by omega)
    rw [a0] at c0 ⊢
    rw [if_pos c0]
    by_cases c1 : 48 ≤ aQ Q L (b + 1) ∧ aQ Q L (b + 1) ≤ 57 ∧ 10 * (Q b - 48) + (aQ Q L (b + 1) - 48) ≤ most
    · obtain ⟨hb2, a1⟩ := aQ_lt (Q := Q) (L := L) (p := b + 1) (by omega)
      rw [a1] at c1 ⊢
      rw [if_pos c1]
      refine ⟨fun q => absurd q (by dsimp only; omega), fun _ => ⟨?_, c1.2.2⟩⟩
      have t1 : stN f (b + 1) = 8 ∨ stN f (b + 1) = 9 ∧ Q (b + 1) = 48 := by
        rcases hs with ⟨e, em⟩ | ⟨e, em⟩
        · rw [hs1, e, q_3 _ hq]
          by_cases w : Q b = 49 ∨ Q b = 50
          · rw [if_pos w]; exact Or.inl rfl
          · rw [if_neg w, if_pos (by omega)]
            exact Or.inr ⟨rfl, by omega⟩
        · rw [hs1, e, q_7 _ hq, if_pos c0]; exact Or.inl rfl
      have t2 : stN f (b + 2) = 10 := by
        rcases t1 with e | ⟨e, w⟩
        · rw [hs2, e, q_8 _ hq1, if_pos ⟨c1.1, c1.2.1⟩]
        · rw [hs2, e, q_9 _ hq1, if_pos w]
      have t3 : stN f (b + 3) = if Q (b + 2) = 59 then 0 else -1 := by rw [hs3, t2, q_10 _ hq2]
      refine ⟨by dsimp only; omega, by dsimp only; omega, fun j j1 j2 => ?_, ?_, fun j j1 j2 => ?_, fun hp => ⟨fun q => ?_, fun q => ?_⟩⟩
      · rcases (show j = b + 1 ∨ j = b + 2 by dsimp only at j2; omega) with rfl | rfl
        · rcases t1 with e | ⟨e, w⟩ <;> rw [e] <;> decide
        · rw [t2]; decide
      · show 8 ≤ stN f (b + 2)
        rw [t2]; decide
      · rcases (show j = b ∨ j = b + 1 by dsimp only at j2; omega) with rfl | rfl
        · rw [g0]; omega
        · rw [g1]; omega
      · show stN f (b + 3) = 0
        rw [t3, if_pos (g2.mp q)]
      · show stN f (b + 3) = -1
        rw [t3, if_neg (fun w => q (g2.mpr w))]
    · rw [if_neg c1]
      refine ⟨fun q => absurd q (by dsimp only; omega), fun _ => ⟨?_, by rcases hs with ⟨-, e⟩ | ⟨-, e⟩ <;> rw [e] <;> dsimp only <;> omega⟩⟩
      have t1 : stN f (b + 1) = 8 ∨ stN f (b + 1) = 9 ∨ stN f (b + 1) = 10 := by
        rcases hs with ⟨e, em⟩ | ⟨e, em⟩
        · rw [hs1, e, q_3 _ hq]
          by_cases w : Q b = 49 ∨ Q b = 50
          · rw [if_pos w]; exact Or.inl rfl
          · rw [if_neg w]
            by_cases w2 : Q b = 51
            · rw [if_pos w2]; exact Or.inr (Or.inl rfl)
            · rw [if_neg w2, if_pos (by omega)]; exact Or.inr (Or.inr rfl)
        · rw [hs1, e, q_7 _ hq, if_pos c0]; exact Or.inl rfl
      have t2 : b + 1 < L → stN f (b + 2) = if Q (b + 1) = 59 then 0 else -1 := fun hl => by
        have a1 := aQ_in (Q := Q) hl
        rw [a1] at c1
        rcases hs with ⟨e, em⟩ | ⟨e, em⟩
        · by_cases w : Q b = 49 ∨ Q b = 50
          · have e1 : stN f (b + 1) = 8 := by rw [hs1, e, q_3 _ hq, if_pos w]
            rw [hs2, e1, q_8 _ hq1, if_neg (fun v => c1 ⟨v.1, v.2, by omega⟩)]
          · by_cases w2 : Q b = 51
            · have e1 : stN f (b + 1) = 9 := by rw [hs1, e, q_3 _ hq, if_neg w, if_pos w2]
              rw [hs2, e1, q_9 _ hq1, if_neg (fun v => c1 ⟨by omega, by omega, by omega⟩)]
            · have e1 : stN f (b + 1) = 10 := by rw [hs1, e, q_3 _ hq, if_neg w, if_neg w2, if_pos (by omega)]
              rw [hs2, e1, q_10 _ hq1]
        · have e1 : stN f (b + 1) = 8 := by rw [hs1, e, q_7 _ hq, if_pos c0]
          rw [hs2, e1, q_8 _ hq1, if_neg (fun v => c1 ⟨v.1, v.2, by omega⟩)]
      refine ⟨by dsimp only; omega, by dsimp only; omega, fun j j1 j2 => ?_, ?_, fun j j1 j2 => ?_, fun hp => ⟨fun q => ?_, fun q => ?_⟩⟩
      · have e : j = b + 1 := by dsimp only at j2; omega
        subst e
        rcases t1 with e | e | e <;> rw [e] <;> decide
      · show 8 ≤ stN f (b + 1)
        rcases t1 with e | e | e <;> rw [e] <;> decide
      · have e : j = b := by dsimp only at j2; omega
        subst e
        rw [g0]; omega
      · show stN f (b + 2) = 0
        rw [t2 hp, if_pos (g1.mp q)]
      · show stN f (b + 2) = -1
        rw [t2 hp, if_neg (fun w => q (g1.mpr w))]
  · rw [if_neg c0]
    refine ⟨fun _ => ⟨rfl, hb, fun j j1 j2 => absurd j1 (by omega), fun hl => ?_, hst.2⟩, fun q => absurd rfl q⟩
    rw [aQ_in hl] at c0
    rcases hs with ⟨e, -⟩ | ⟨e, -⟩
    · rw [hs1, e, q_3 _ hq, if_neg (by omega), if_neg (by omega), if_neg (by omega)]
    · rw [hs1, e, q_7 _ hq, if_neg c0]
