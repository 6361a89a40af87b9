/-! The list of bent pins, and the order in which the reference counts its turns -/
def BL (B : Nat) (β : zB) (z : zZ) : Prop := ∃ (m T : Nat) (L t : Nat → Nat), β 0 16 = nI m ∧ z 16 = nI T ∧ (∀ a, a < m → L a < 56 ∧ β 2 a = nI (L a) ∧ ¬ z (20 + L a) = 0) ∧ (∀ i, i < 56 → ¬ z (20 + i) = 0 → ∃ a, a < m ∧ L a = i) ∧ (∀ i, i < 56 → z (76 + i) = nI (t i) ∧ t i ≤ T) ∧ (∀ a b, a < b → b < m → t (L a) < t (L b)) ∧ T ≤ B
/-- how many of the first k have the property -/
def cnt (Q : Nat → Bool) : Nat → Nat
  | 0 => 0
  | k + 1 => cnt Q k + (if Q k = true then 1 else 0)
theorem cnt_ext {Q R : Nat → Bool} : ∀ {k : Nat}, (∀ i, i < k → Q i = R i) → cnt Q k = cnt R k
  | 0, _ => rfl
  | k + 1, h => by
    simp only [cnt]
    rw [cnt_ext (fun i hi => h i (by omega)), h k (by omega)]
theorem cnt_none {Q : Nat → Bool} : ∀ {k : Nat}, (∀ i, i < k → Q i = false) → cnt Q k = 0
  | 0, _ => rfl
  | k + 1, h => by
    simp only [cnt]
    rw [cnt_none (fun i hi => h i (by omega)), h k (by omega)]
    rfl
theorem cnt_one {Q R : Nat → Bool} {c : Nat} (hQ : Q c = false) (hR : R c = true) (he : ∀ i, i ≠ c → R i = Q i) : ∀ {k : Nat}, c < k → cnt R k = cnt Q k + 1
  | 0, h => absurd h (by omega)
  | k + 1, h => by
    simp only [cnt]
    by_cases e : k = c
    · subst e
      rw [hQ, hR, cnt_ext (Q := R) (R := Q) (fun i hi => he i (by omega))]
      rfl
    · rw [cnt_one hQ hR he (k := k) (by omega), he k e]
      omega
theorem cnt_le (Q : Nat → Bool) : ∀ k, cnt Q k ≤ k
  | 0 => Nat.le_refl _
  | k + 1 => by
    have := cnt_le Q k
    simp only [cnt]
    split <;> omega
theorem cnt_lt {Q : Nat → Bool} {c : Nat} (hc : Q c = false) : ∀ {k : Nat}, c < k → cnt Q k < k
  | 0, h => absurd h (by omega)
  | k + 1, h => by
    have h1 := cnt_le Q k
    simp only [cnt]
    by_cases e : k = c
    · subst e
      rw [hc]
      simp only [Bool.false_eq_true, if_false]
      omega
    · have := cnt_lt hc (k := k) (by omega)
      split <;> omega
/-- the image of a list without repeats is as long as the list -/
theorem cnt_im {L : Nat → Nat} {N m : Nat} (hL : ∀ a, a < m → L a < N) (hi : ∀ a b, a < b → b < m → L a ≠ L b) : ∀ a, a ≤ m → ∀ Q : Nat → Bool, (∀ i, i < N → (Q i = true ↔ ∃ b, b < a ∧ L b = i)) → cnt Q N = a
  | 0, _, Q, h => cnt_none (fun i hi2 => by
      cases e : Q i with
      | false => rfl
      | true => obtain ⟨b, hb, -⟩ := (h i hi2).mp e; omega)
  | a + 1, ha, Q, h => by
    have hla := hL a (by omega)
    have h1 : cnt (fun i => if i = L a then false else Q i) N = a := by
      refine cnt_im hL hi a (by omega) _ (fun i hi2 => ?_)
      by_cases e : i = L a
      · rw [if_pos e]
        refine ⟨fun q => absurd q (by decide), fun ⟨b, hb, hbe⟩ => absurd (hbe.trans e) (hi b a hb (by omega))⟩
      · rw [if_neg e, h i hi2]
        refine ⟨fun ⟨b, hb, hbe⟩ => ⟨b, ?_, hbe⟩, fun ⟨b, hb, hbe⟩ => ⟨b, by omega, hbe⟩⟩
        rcases Nat.lt_succ_iff_lt_or_eq.mp hb with q | q
        · exact q
        · subst q; exact absurd hbe.symm e
    rw [cnt_one (Q := fun i => if i = L a then false else Q i) (c := L a) (if_pos rfl) ((h (L a) hla).mpr ⟨a, by omega, rfl⟩) (fun i hne => (if_neg hne).symm) hla, h1]
theorem bpC_cnt (z : zZ) : ∀ k, bpC z k = cnt (fun i => !decide (z (20 + i) = 0)) k
  | 0 => rfl
  | k + 1 => by
    simp only [bpC, cnt]
    rw [bpC_cnt z k]
    by_cases e : z (20 + k) = 0 <;> simp [e]
theorem ahN_cnt (z : zZ) (k : Nat) : ∀ o, ahN z k o = nI (cnt (fun i => !decide (z (20 + i) = 0) && !decide (z (76 + k) ≤ z (76 + i))) o)
  | 0 => rfl
  | o + 1 => by
    simp only [ahN, cnt]
    rw [ahN_cnt z k o]
    by_cases e : z (20 + o) = 0
    · simp [e]
    · by_cases e2 : z (76 + k) ≤ z (76 + o)
      · simp [e, e2]
      · simp [e, e2, nI_1]
theorem BL_inj {m : Nat} {L t : Nat → Nat} (h : ∀ a b, a < b → b < m → t (L a) < t (L b)) {a b : Nat} (hab : a < b) (hb : b < m) : L a ≠ L b := fun e => by
  have := h a b hab hb
  rw [e] at this
  omega
theorem BL_m {z : zZ} {m : Nat} {L t : Nat → Nat} (h1 : ∀ a, a < m → L a < 56 ∧ ¬ z (20 + L a) = 0) (h2 : ∀ i, i < 56 → ¬ z (20 + i) = 0 → ∃ a, a < m ∧ L a = i) (h3 : ∀ a b, a < b → b < m → t (L a) < t (L b)) : bpC z 56 = m := by
  rw [bpC_cnt]
  refine cnt_im (L := L) (fun a ha => (h1 a ha).1) (fun a b hab hb => BL_inj h3 hab hb) m (Nat.le_refl _) _ (fun i hi => ?_)
  constructor
  · intro q
    exact h2 i hi (by simpa using q)
  · rintro ⟨b, hb, rfl⟩
    simpa using (h1 b hb).2
theorem BL.m {B : Nat} {β : zB} {z : zZ} (h : BL B β z) : β 0 16 = nI (bpC z 56) ∧ bpC z 56 ≤ 56 ∧ (∀ i, i < 56 → z (20 + i) = 0 → bpC z 56 < 56) := by
  obtain ⟨m, T, L, t, h1, h2, h3, h4, h5, h6, h7⟩ := h
  have e := BL_m (fun a ha => ⟨(h3 a ha).1, (h3 a ha).2.2⟩) h4 h6
  refine ⟨by rw [e]; exact h1, bpC_le z 56, fun i hi hz => ?_⟩
  rw [bpC_cnt]
  exact cnt_lt (c := i) (by simpa using hz) hi
theorem BL_ah {z : zZ} {m T : Nat} {L t : Nat → Nat} (hT : T < 2 ^ 30) (h1 : ∀ a, a < m → L a < 56 ∧ ¬ z (20 + L a) = 0) (h2 : ∀ i, i < 56 → ¬ z (20 + i) = 0 → ∃ a, a < m ∧ L a = i) (h5 : ∀ i, i < 56 → z (76 + i) = nI (t i) ∧ t i ≤ T) (h3 : ∀ a b, a < b → b < m → t (L a) < t (L b)) {a : Nat} (ha : a < m) : ahN z (L a) 56 = nI a := by
  rw [ahN_cnt]
  refine congrArg nI (cnt_im (L := L) (m := m) (fun a ha => (h1 a ha).1) (fun a b hab hb => BL_inj h3 hab hb) a (by omega) _ (fun i hi => ?_))
  have hla := (h1 a ha).1
  obtain ⟨e1, b1⟩ := h5 _ hla
  constructor
  · intro q
    have q1 : ¬ z (20 + i) = 0 ∧ ¬ z (76 + L a) ≤ z (76 + i) := by simpa using q
    obtain ⟨b, hb, rfl⟩ := h2 i hi q1.1
    obtain ⟨e2, b2⟩ := h5 _ (h1 b hb).1
    rw [e1, e2, nI_leI (by omega) (by omega)] at q1
    refine ⟨b, ?_, rfl⟩
    rcases Nat.lt_trichotomy b a with q | q | q
    · exact q
    · subst q; omega
    · have := h3 a b q hb; omega
  · rintro ⟨b, hb, rfl⟩
    obtain ⟨e2, b2⟩ := h5 _ (h1 b (by omega)).1
    have := h3 b a hb ha
    have q1 : ¬ z (20 + L b) = 0 ∧ ¬ z (76 + L a) ≤ z (76 + L b) := by
      rw [e1, e2, nI_leI (by omega) (by omega)]
      exact ⟨(h1 b (by omega)).2, by omega⟩
    simpa using q1
/-- what the reference tells of the list -/
theorem BL_ba {β : zB} {z : zZ} {m T : Nat} {L t : Nat → Nat} (hT : T < 2 ^ 30) (h1 : ∀ a, a < m → L a < 56 ∧ β 2 a = nI (L a) ∧ ¬ z (20 + L a) = 0) (h2 : ∀ i, i < 56 → ¬ z (20 + i) = 0 → ∃ a, a < m ∧ L a = i) (h5 : ∀ i, i < 56 → z (76 + i) = nI (t i) ∧ t i ≤ T) (h3 : ∀ a b, a < b → b < m → t (L a) < t (L b)) (hm : m ≤ 56) {p : Nat} (hp : p < 2 ^ 31) : baN z (nI p) 56 = if p < m then β 2 p else -1 := by
  have ah : ∀ a, a < m → ahN z (L a) 56 = nI a := fun a ha => BL_ah hT (fun a ha => ⟨(h1 a ha).1, (h1 a ha).2.2⟩) h2 h5 h3 ha
  by_cases hpm : p < m
  · rw [if_pos hpm, (h1 p hpm).2.1]
    have key : ∀ k, k ≤ 56 → baN z (nI p) k = if L p < k then nI (L p) else -1 := by
      intro k
      induction k with
      | zero => intro _; rw [if_neg (by omega)]; rfl
      | succ k ih =>
        intro hk
        simp only [baN]
        rw [ih (by omega)]
        by_cases e : z (20 + k) = 0
        · rw [if_pos e]
          have : L p ≠ k := fun q => (h1 p hpm).2.2 (by rw [q]; exact e)
          by_cases c : L p < k
          · rw [if_pos c, if_pos (by omega)]
          · rw [if_neg c, if_neg (by omega)]
        · rw [if_neg e]
          obtain ⟨a, ha, rfl⟩ := h2 k (by omega) e
          rw [ah a ha]
          by_cases c : a = p
          · subst c
            rw [if_pos rfl, if_pos (by omega)]
          · rw [if_neg (zI_ne (by omega) hp c)]
            have : L p ≠ L a := by
              rcases Nat.lt_or_gt_of_ne c with q | q
              · exact (BL_inj h3 q hpm).symm
              · exact BL_inj h3 q ha
            by_cases c2 : L p < L a
            · rw [if_pos c2, if_pos (by omega)]
            · rw [if_neg c2, if_neg (by omega)]
    rw [key 56 (by omega), if_pos (h1 p hpm).1]
  · rw [if_neg hpm]
    have key : ∀ k, k ≤ 56 → baN z (nI p) k = -1 := by
      intro k
      induction k with
      | zero => intro _; rfl
      | succ k ih =>
        intro hk
        simp only [baN]
        rw [ih (by omega)]
        by_cases e : z (20 + k) = 0
        · rw [if_pos e]
        · rw [if_neg e]
          obtain ⟨a, ha, rfl⟩ := h2 k (by omega) e
          rw [ah a ha, if_neg (zI_ne (by omega) hp (by omega))]
    exact key 56 (by omega)
theorem BL_ext {B C : Nat} (hBC : B ≤ C) {β γ : zB} {z w : zZ} (h : BL B β z) (e0 : γ 0 16 = β 0 16) (e1 : ∀ a, a < 56 → γ 2 a = β 2 a) (e2 : w 16 = z 16) (e3 : ∀ i, 20 ≤ i → i < 132 → w i = z i) : BL C γ w := by
  have hm := h.m
  obtain ⟨m, T, L, t, h1, h2, h3, h4, h5, h6, h7⟩ := h
  have e := BL_m (fun a ha => ⟨(h3 a ha).1, (h3 a ha).2.2⟩) h4 h6
  refine ⟨m, T, L, t, by rw [e0]; exact h1, by rw [e2]; exact h2, fun a ha => ?_, fun i hi hz => ?_, fun i hi => ?_, h6, by omega⟩
  · have := h3 a ha
    rw [e1 a (by omega), e3 _ (by omega) (by omega)]
    exact this
  · rw [e3 _ (by omega) (by omega)] at hz
    exact h4 i hi hz
  · rw [e3 _ (by omega) (by omega)]
    exact h5 i hi
theorem fallN_l (β : zB) (c r : Nat) : (fallN β c r).1 2 = β 2 ∧ (fallN β c r).1 0 16 = β 0 16 := by
  induction r with
  | zero => exact ⟨rfl, rfl⟩
  | succ r ih =>
    show (fallS _ _ _).1 2 = _ ∧ (fallS _ _ _).1 0 16 = _
    rw [← ih.1, ← ih.2]
    unfold fallS
    split <;> exact ⟨rfl, rfl⟩
theorem spinB_l (β : zB) : spinB β 2 = β 2 ∧ spinB β 0 16 = β 0 16 := by
  have h5 : ∀ γ : zB, spin5 γ 2 = γ 2 ∧ spin5 γ 0 16 = γ 0 16 := fun γ => by unfold spin5; split <;> (try split) <;> exact ⟨rfl, rfl⟩
  have h1 : spin1 β 2 = β 2 ∧ spin1 β 0 16 = β 0 16 := by unfold spin1; split <;> exact ⟨rfl, rfl⟩
  unfold spinB
  rw [(h5 _).1, (h5 _).2, ← h1.1, ← h1.2]
  exact ⟨rfl, rfl⟩
theorem lch2_l (β : zB) : lch2 β 2 = β 2 ∧ lch2 β 0 16 = β 0 16 := by
  unfold lch2
  split
  · exact ⟨rfl, rfl⟩
  · split
    · rw [(spinB_l _).1, (spinB_l _).2]; exact ⟨rfl, rfl⟩
    · exact ⟨rfl, rfl⟩
theorem payB_l (β : zB) (p : Nat) : payB β p 2 = β 2 ∧ payB β p 0 16 = β 0 16 := by unfold payB; split <;> exact ⟨rfl, rfl⟩
theorem comeB_l (β : zB) (p : Nat) : comeB β p 2 = β 2 ∧ comeB β p 0 16 = β 0 16 := by
  have h2 : ∀ o, comeB2 β p o 2 = β 2 ∧ comeB2 β p o 0 16 = β 0 16 := fun o => by unfold comeB2; split <;> (try split) <;> (try split) <;> exact ⟨rfl, rfl⟩
  unfold comeB
  split
  · exact h2 _
  · rw [(payB_l _ _).1, (payB_l _ _).2]; exact h2 _
theorem lchB_l (β : zB) (c : Nat) : lchB β c 2 = β 2 ∧ lchB β c 0 16 = β 0 16 := by
  have h5 : ∀ (γ : zB) (p : Nat), lch5 γ p 2 = γ 2 ∧ lch5 γ p 0 16 = γ 0 16 := fun γ p => by unfold lch5; split <;> (try split) <;> exact ⟨rfl, rfl⟩
  have h4 : ∀ (γ : zB) (p : Nat), lch4 γ p 2 = γ 2 ∧ lch4 γ p 0 16 = γ 0 16 := fun _ _ => ⟨rfl, rfl⟩
  have h1 : lch1 β 2 = β 2 ∧ lch1 β 0 16 = β 0 16 := ⟨rfl, rfl⟩
  unfold lchB
  rw [(h5 _ _).1, (h5 _ _).2, (comeB_l _ _).1, (comeB_l _ _).2, (h4 _ _).1, (h4 _ _).2]
  unfold lchA lch3
  rw [(fallN_l _ _ _).1, (fallN_l _ _ _).2, (lch2_l _).1, (lch2_l _).2, h1.1, h1.2]
  exact ⟨rfl, rfl⟩

