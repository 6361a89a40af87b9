/-! A pin is bent -/
theorem ZI_bend {B : Nat} {z : zZ} (h : ZI B z) {i : Nat} {t : Int32} (hi : i < 56) (ht : t = 0 ∨ t = 1 ∨ t = -1) : ZI B (bendZ z i t) := by
  have hx := bendZ_x h.x h.p hi ht
  obtain ⟨h1, h2, h3, h4, h5, q, r, e1, e2, b1, b2⟩ := h
  have hk : ∀ k, k = 3 ∨ k = 4 ∨ k = 10 ∨ k = 14 ∨ 132 ≤ k → bendZ z i t k = z k := fun k hk => by
    unfold bendZ
    split
    · simp (disch := omega) only [va_ne]
    · split <;> simp (disch := omega) only [va_ne]
  refine ⟨hx.1, hx.2, by rw [hk 10 (by omega)]; exact h3, by rw [hk 14 (by omega)]; exact h4, fun p hp => ?_, q, r, by rw [hk 3 (by omega)]; exact e1, by rw [hk 4 (by omega)]; exact e2, b1, b2⟩
  rw [hk _ (by omega), hk _ (by omega)]
  exact h5 p hp
theorem RV_bend {β : zB} {z : zZ} (h : RV β z) {i : Nat} {t : Int32} (hi : i < 56) (m : Nat) : RV (bendB β i m t) (bendZ z i t) := by
  have e := h.p hi
  have h1 := RV_p h hi t
  unfold bendB bendZ
  rw [e]
  by_cases c : z (20 + i) = 0
  · rw [if_pos c]
    by_cases c2 : t = 0
    · rw [if_pos c2, if_pos c2]
      exact RV_zs h1 hi _
    · rw [if_neg c2, if_neg c2, if_pos c]
      unfold addBent
      exact RV_zs (RV_zt (RV_b (RV_l h1 _ _) _) _) hi _
  · rw [if_neg c]
    by_cases c2 : t = 0
    · rw [if_pos c2, if_pos c2]
      unfold remBent
      exact RV_zs (RV_b (RV_lf h1 _) _) hi _
    · rw [if_neg c2, if_neg c2, if_neg c]
      exact h1
/-- the list without its place a0 -/
theorem rbl_k {f : Nat → Int32} {v : Int32} {m a0 : Nat} (h0 : f a0 = v) (h1 : ∀ a, a < m → a ≠ a0 → ¬ f a = v) : ∀ j, j ≤ m → (rbl f v j).2 = (if j ≤ a0 then j else j - 1) ∧ ∀ k, (rbl f v j).1 k = if k < (rbl f v j).2 then (if k < a0 then f k else f (k + 1)) else f k := by
  intro j
  induction j with
  | zero => intro _; exact ⟨by rw [if_pos (Nat.zero_le _)]; rfl, fun k => (if_neg (Nat.not_lt_zero k)).symm⟩
  | succ j ih =>
    intro hj
    obtain ⟨i1, i2⟩ := ih (by omega)
    have e : (rbl f v j).1 j = f j := by
      rw [i2 j, i1]
      split <;> rw [if_neg (by omega)]
    have es : rbl f v (j + 1) = if f j = v then rbl f v j else (va_up (rbl f v j).1 (rbl f v j).2 (f j), (rbl f v j).2 + 1) := by
      show (if (rbl f v j).1 j = v then rbl f v j else (va_up (rbl f v j).1 (rbl f v j).2 ((rbl f v j).1 j), (rbl f v j).2 + 1)) = _
      simp only [e]
    rw [es]
    by_cases c : j = a0
    · subst c
      rw [if_pos h0, i1, if_pos (Nat.le_refl _), if_neg (by omega)]
      refine ⟨by omega, fun k => ?_⟩
      rw [i2 k, i1, if_pos (Nat.le_refl _)]
    · rw [if_neg (h1 j (by omega) c)]
      rw [i1]
      by_cases c2 : j < a0
      · rw [if_pos (by omega), if_pos (by omega)]
        refine ⟨rfl, fun k => ?_⟩
        dsimp only
        by_cases c3 : k = j
        · subst c3
          rw [vat, if_pos (by omega), if_pos c2]
        · have i3 : (rbl f v j).2 = j := by rw [i1, if_pos (by omega)]
          rw [va_ne c3, i2 k, i3]
          by_cases c4 : k < j
          · rw [if_pos c4, if_pos (show k < j + 1 by omega)]
          · rw [if_neg c4, if_neg (by omega)]
      · rw [if_neg (by omega), if_neg (by omega)]
        refine ⟨by dsimp only; omega, fun k => ?_⟩
        dsimp only
        by_cases c3 : k = j - 1
        · subst c3
          rw [vat, if_pos (by omega), if_neg (by omega), show j - 1 + 1 = j by omega]
        · have i3 : (rbl f v j).2 = j - 1 := by rw [i1, if_neg (by omega)]
          rw [va_ne c3, i2 k, i3]
          by_cases c4 : k < j - 1
          · rw [if_pos c4, if_pos (show k < j - 1 + 1 by omega)]
          · rw [if_neg c4, if_neg (by omega)]
theorem BL_bend {B : Nat} {β : zB} {z : zZ} (h : BL B β z) (hr : RV β z) {i m : Nat} {t : Int32} (hi : i < 56) (hm : β 0 16 = nI m) (hm2 : m ≤ 56) : BL (B + 1) (bendB β i m t) (bendZ z i t) := by
  have hmm := h.m
  obtain ⟨m1, T, L, s, h1, h2, h3, h4, h5, h6, h7⟩ := h
  have em := BL_m (fun a ha => ⟨(h3 a ha).1, (h3 a ha).2.2⟩) h4 h6
  have e9 : m1 = m := zI_inj (by omega) (by omega) (h1.symm.trans hm)
  subst e9
  have e := hr.p hi
  unfold bendB bendZ
  rw [e]
  by_cases c : z (20 + i) = 0
  · have hne : ∀ a, a < m1 → L a ≠ i := fun a ha q => (h3 a ha).2.2 (by rw [q]; exact c)
    rw [if_pos c]
    by_cases c2 : t = 0
    · rw [if_pos c2, if_pos c2]
      refine ⟨m1, T, L, fun j => if j = i then 0 else s j, h1, ?_, fun a ha => ?_, fun j hj hz => ?_, fun j hj => ?_, fun a b hab hb => ?_, by omega⟩
      · simp (disch := omega) only [va_ne]; exact h2
      · have := h3 a ha
        have q := hne a ha
        simp (disch := omega) only [u2ne, va_ne]
        exact this
      · by_cases c3 : j = i
        · subst c3
          simp (disch := omega) only [va_ne, vat] at hz
          exact absurd c2 hz
        · simp (disch := omega) only [va_ne] at hz
          exact h4 j hj hz
      · by_cases c3 : j = i
        · subst c3
          rw [vat]
          simp only [if_true]
          exact ⟨rfl, Nat.zero_le _⟩
        · simp (disch := omega) only [va_ne]
          rw [if_neg c3]
          exact h5 j hj
      · dsimp only
        rw [if_neg (hne a (by omega)), if_neg (hne b hb)]
        exact h6 a b hab hb
    · rw [if_neg c2, if_neg c2, if_pos c]
      unfold addBent
      refine ⟨m1 + 1, T + 1, fun a => if a = m1 then i else L a, fun j => if j = i then T + 1 else s j, ?_, ?_, fun a ha => ?_, fun j hj hz => ?_, fun j hj => ?_, fun a b hab hb => ?_, by omega⟩
      · rw [u2at, vat]
      · simp (disch := omega) only [va_ne, vat]; rw [h2, nI_1]
      · by_cases c3 : a = m1
        · subst c3
          simp only [if_true]
          simp (disch := omega) only [u2ne, u2at, va_ne, vat]
          exact ⟨hi, trivial, c2⟩
        · have := h3 a (by omega)
          have q := hne a (by omega)
          simp only [if_neg c3]
          simp (disch := omega) only [u2ne, u2at, va_ne]
          exact this
      · by_cases c3 : j = i
        · subst c3
          exact ⟨m1, by omega, if_pos rfl⟩
        · simp (disch := omega) only [va_ne] at hz
          obtain ⟨a, ha, q⟩ := h4 j hj hz
          exact ⟨a, by omega, by dsimp only; rw [if_neg (by omega)]; exact q⟩
      · by_cases c3 : j = i
        · subst c3
          simp only [if_true]
          simp (disch := omega) only [vat]
          rw [h2, nI_1]
          exact ⟨rfl, Nat.le_refl _⟩
        · simp (disch := omega) only [va_ne]
          rw [if_neg c3]
          have := h5 j hj
          exact ⟨this.1, by omega⟩
      · dsimp only
        rw [if_neg (show ¬ a = m1 by omega), if_neg (hne a (by omega))]
        by_cases c3 : b = m1
        · rw [if_pos c3, if_pos rfl]
          have := (h5 _ (h3 a (by omega)).1).2
          omega
        · rw [if_neg c3, if_neg (hne b (by omega))]
          exact h6 a b hab (by omega)
  · rw [if_neg c]
    by_cases c2 : t = 0
    · rw [if_pos c2, if_pos c2]
      obtain ⟨a0, ha0, hLa⟩ := h4 i hi c
      have hd : ∀ a, a < m1 → a ≠ a0 → L a ≠ i := fun a ha hne q => by
        rw [← hLa] at q
        rcases Nat.lt_or_gt_of_ne hne with w | w
        · exact BL_inj h6 w ha0 q
        · exact BL_inj h6 w ha q.symm
      have hk := rbl_k (f := β 2) (v := nI i) (m := m1) (a0 := a0) (by rw [(h3 a0 ha0).2.1, hLa]) (fun a ha hne => by
        have hla := (h3 a ha).1
        rw [(h3 a ha).2.1]
        exact zI_ne (by omega) (by omega) (hd a ha hne)) m1 (Nat.le_refl _)
      rw [if_neg (show ¬ m1 ≤ a0 by omega)] at hk
      unfold remBent
      rw [show up2 β 1 i t 2 = β 2 from u2ne (by omega)]
      refine ⟨m1 - 1, T, fun a => if a < a0 then L a else L (a + 1), fun j => if j = i then 0 else s j, ?_, ?_, fun a ha => ?_, fun j hj hz => ?_, fun j hj => ?_, fun a b hab hb => ?_, by omega⟩
      · rw [u2at, vat, hk.1]
      · simp (disch := omega) only [va_ne]; exact h2
      · have e2 : up2 (sa (up2 β 1 i t) 2 (rbl (β 2) (nI i) m1).1) 0 16 (nI (rbl (β 2) (nI i) m1).2) 2 a = if a < a0 then β 2 a else β 2 (a + 1) := by
          simp (disch := omega) only [u2ne, saat]
          rw [hk.2 a, hk.1, if_pos ha]
        rw [e2]
        dsimp only
        by_cases c3 : a < a0
        · rw [if_pos c3, if_pos c3]
          have := h3 a (by omega)
          have q := hd a (by omega) (by omega)
          simp (disch := omega) only [va_ne]
          exact this
        · rw [if_neg c3, if_neg c3]
          have := h3 (a + 1) (by omega)
          have q := hd (a + 1) (by omega) (by omega)
          simp (disch := omega) only [va_ne]
          exact this
      · by_cases c3 : j = i
        · subst c3
          simp (disch := omega) only [va_ne, vat] at hz
          exact absurd c2 hz
        · simp (disch := omega) only [va_ne] at hz
          obtain ⟨a, ha, q⟩ := h4 j hj hz
          have hn : a ≠ a0 := fun w => c3 (by rw [← q, w, hLa])
          by_cases c4 : a < a0
          · exact ⟨a, by omega, by dsimp only; rw [if_pos c4]; exact q⟩
          · exact ⟨a - 1, by omega, by dsimp only; rw [if_neg (by omega), show a - 1 + 1 = a by omega]; exact q⟩
      · by_cases c3 : j = i
        · subst c3
          rw [vat]
          simp only [if_true]
          exact ⟨rfl, Nat.zero_le _⟩
        · simp (disch := omega) only [va_ne]
          rw [if_neg c3]
          exact h5 j hj
      · have key : ∀ a, a < m1 - 1 → ∃ a', a' < m1 ∧ a' ≠ a0 ∧ (if a < a0 then L a else L (a + 1)) = L a' ∧ a' = (if a < a0 then a else a + 1) := fun a ha => by
          by_cases c3 : a < a0
          · exact ⟨a, by omega, by omega, if_pos c3, (if_pos c3).symm⟩
          · exact ⟨a + 1, by omega, by omega, if_neg c3, (if_neg c3).symm⟩
        obtain ⟨a', p1, p2, p3, p4⟩ := key a (by omega)
        obtain ⟨b', q1, q2, q3, q4⟩ := key b hb
        dsimp only
        rw [p3, q3, if_neg (hd a' p1 p2), if_neg (hd b' q1 q2)]
        refine h6 a' b' ?_ q1
        rw [p4, q4]
        split <;> split <;> omega
    · rw [if_neg c2, if_neg c2, if_neg c]
      refine ⟨m1, T, L, s, h1, ?_, fun a ha => ?_, fun j hj hz => ?_, fun j hj => ?_, h6, by omega⟩
      · simp (disch := omega) only [va_ne]; exact h2
      · have := h3 a ha
        refine ⟨this.1, this.2.1, ?_⟩
        by_cases c3 : L a = i
        · rw [c3, vat]; exact c2
        · rw [va_ne (by omega)]; exact this.2.2
      · by_cases c3 : j = i
        · subst c3; exact h4 j hj c
        · rw [va_ne (by omega)] at hz
          exact h4 j hj hz
      · rw [va_ne (by omega)]; exact h5 j hj
theorem RB_bend {B : Nat} {β : zB} {z : zZ} (h : RB B β z) {i m : Nat} {t : Int32} (hi : i < 56) (ht : t = 0 ∨ t = 1 ∨ t = -1) (hm : β 0 16 = nI m) (hm2 : m ≤ 56) : RB (B + 1) (bendB β i m t) (bendZ z i t) :=
  ⟨RV_bend h.1 hi m, BL_bend h.2.1 h.1 hi hm hm2, ZI_mono (ZI_bend h.2.2 hi ht) (by omega)⟩
/-- the count of bent pins and the list, as both tell them -/
theorem RB_16 {B : Nat} {β : zB} {z : zZ} (h : RB B β z) : β 0 16 = nI (bpC z 56) ∧ bpC z 56 ≤ 56 ∧ ∀ i, i < 56 → β 1 i = 0 → bpC z 56 < 56 :=
  ⟨h.2.1.m.1, h.2.1.m.2.1, fun i hi e => h.2.1.m.2.2 i hi ((h.1.p hi).symm.trans e)⟩
theorem RB_ba {B : Nat} {β : zB} {z : zZ} (h : RB B β z) (hB : B < 2 ^ 30) {p : Nat} (hp : p < 2 ^ 31) : baN z (nI p) 56 = if p < bpC z 56 then β 2 p else -1 := by
  have hmm := h.2.1.m
  obtain ⟨m1, T, L, s, h1, h2, h3, h4, h5, h6, h7⟩ := h.2.1
  have em := BL_m (fun a ha => ⟨(h3 a ha).1, (h3 a ha).2.2⟩) h4 h6
  rw [em]
  exact BL_ba (by omega) h3 h4 h5 h6 (by omega) hp

