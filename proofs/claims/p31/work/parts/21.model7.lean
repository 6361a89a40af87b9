/-! The text, read by the reference, 2: the whole of it; what a part does -/
theorem rnN_le (f : Nat → Int32) (L : Nat) (most : Int32) : ∀ (k : Nat) (s : Int32) (p : Nat), p + k = L → p ≤ (rnN f L most k (s, p)).2 ∧ (rnN f L most k (s, p)).2 ≤ L := by
  intro k
  induction k with
  | zero => intro s p h; exact ⟨Nat.le_refl _, by show p ≤ L; omega⟩
  | succ k ih =>
    intro s p h
    simp only [rnN]
    split
    · exact ⟨Nat.le_refl _, by show p ≤ L; omega⟩
    · split
      · exact ⟨Nat.le_refl _, by show p ≤ L; omega⟩
      · have := ih (10 * s + aT f L p - 48) (p + 1) (by omega)
        exact ⟨by omega, this.2⟩
theorem rnQ_le (f : Nat → Int32) {L : Nat} (most : Int32) {a : Nat} (ha : a ≤ L) : a ≤ (rnQ f L most a).2 ∧ (rnQ f L most a).2 ≤ L := rnN_le f L most (L - a) 0 a (by omega)
theorem rnE_2 (q : Int32 × Nat) : (rnE q).2 = q.2 := by unfold rnE; split <;> rfl
theorem rpS_b (f : Nat → Int32) {L a : Nat} (ha : a ≤ L) : a ≤ (rpS f L a).2 ∧ (rpS f L a).2 ≤ L + 4 ∧ ((rpS f L a).1 = true → a < (rpS f L a).2 ∧ (rpS f L a).2 ≤ L) := by
  unfold rpS
  split
  · next h =>
    have h1 : a < L := aT_lt (by rw [h]; decide)
    have h2 := rnQ_le f 99 (a := a + 1) (L := L) (by omega)
    rw [rnE_2]
    exact ⟨by omega, by omega, fun _ => ⟨by omega, by omega⟩⟩
  · split
    · split
      · exact ⟨by omega, by omega, fun h => by cases h⟩
      · split
        · next h =>
          have h1 : a + 2 < L := aT_lt (by rw [h]; decide)
          have h2 := rnQ_le f 30 (a := a + 3) (L := L) (by omega)
          rw [rnE_2]
          exact ⟨by omega, by omega, fun _ => ⟨by omega, by omega⟩⟩
        · exact ⟨by show a ≤ a + 2; omega, by show a + 2 ≤ L + 4; omega, fun h => by cases h⟩
    · split
      · split
        · exact ⟨by show a ≤ a + 1; omega, by show a + 1 ≤ L + 4; omega, fun h => by cases h⟩
        · split
          · exact ⟨by show a ≤ a + 2; omega, by show a + 2 ≤ L + 4; omega, fun h => by cases h⟩
          · split
            · next h =>
              have h1 : a + 3 < L := aT_lt (by rw [h]; decide)
              exact ⟨by show a ≤ a + 4; omega, by show a + 4 ≤ L + 4; omega, fun _ => ⟨by show a < a + 4; omega, by show a + 4 ≤ L; omega⟩⟩
            · split
              · next h =>
                have h1 : a + 3 < L := aT_lt (by rw [h]; decide)
                exact ⟨by show a ≤ a + 4; omega, by show a + 4 ≤ L + 4; omega, fun _ => ⟨by show a < a + 4; omega, by show a + 4 ≤ L; omega⟩⟩
              · split
                · next h =>
                  have h1 : a + 3 < L := aT_lt (by rw [h]; decide)
                  exact ⟨by show a ≤ a + 4; omega, by show a + 4 ≤ L + 4; omega, fun _ => ⟨by show a < a + 4; omega, by show a + 4 ≤ L; omega⟩⟩
                · exact ⟨by show a ≤ a + 3; omega, by show a + 3 ≤ L + 4; omega, fun h => by cases h⟩
      · exact ⟨Nat.le_refl _, by show a ≤ L + 4; omega, fun h => by cases h⟩
theorem rpP_3 (f : Nat → Int32) (L a : Nat) (φ : Nat → Int32) {i : Nat} (h : i < 4) : rpP f L a φ i = φ i := by
  unfold rpP
  repeat' split
  all_goals simp only [va_up]
  all_goals repeat rw [if_neg (by omega)]
def feN (f : Nat → Int32) (L : Nat) : Nat → Nat → Int32
  | 0, _ => -1
  | k + 1, a => if (rpS f L a).1 = true then (if (rpS f L a).2 = L then -1 else if f (rpS f L a).2 = 59 then feN f L k ((rpS f L a).2 + 1) else nI (rpS f L a).2) else nI (rpS f L a).2
def feP (f : Nat → Int32) (L : Nat) : Nat → Nat → (Nat → Int32) → Nat → Int32
  | 0, _, φ => φ
  | k + 1, a, φ => if (rpS f L a).1 = true then (if (rpS f L a).2 = L then rpP f L a φ else if f (rpS f L a).2 = 59 then feP f L k ((rpS f L a).2 + 1) (rpP f L a φ) else rpP f L a φ) else rpP f L a φ
theorem neg1 {p : Nat} (h : p < 2 ^ 30) : ¬ 0 ≤ (-1 : Int32) - nI p := by
  intro h1
  have h2 := Int32.le_iff_toInt_le.mp h1
  rw [Int32.toInt_sub, nI_toInt (by omega)] at h2
  have h3 : ((-1 : Int32)).toInt = -1 := by decide
  have h4 : (0 : Int32).toInt = 0 := by decide
  rw [h3, h4, Int.bmod_eq_of_le (by omega) (by omega)] at h2
  omega
theorem neg2 (p : Nat) : (-1 : Int32) - (-1 - nI p) = nI p := by
  simp only [Int32.sub_eq_add_neg, Int32.neg_add, Int32.neg_neg]
  rw [← Int32.add_assoc]
  have : (-1 : Int32) + 1 = 0 := by decide
  rw [this, Int32.zero_add]
/-- what a part does: the row of numbers, and what is paid -/
def dpZ (φ : Nat → Int32) (z : zZ) : zZ × Int32 := if φ 4 = 108 then plZ (φ 5).toNatClampNeg (φ 6).toNatClampNeg (z, 0) else if φ 4 = 36 then (buyZ z (φ 6), 0) else (bendZ z (7 * (φ 5).toNatClampNeg + (φ 6).toNatClampNeg) (if φ 7 = 60 then -1 else if φ 7 = 62 then 1 else 0), 0)
def dpOk (φ : Nat → Int32) : Prop := (φ 4 = 108 ∧ ∃ c k, c < 7 ∧ k < 1000 ∧ φ 5 = nI c ∧ φ 6 = nI k) ∨ (¬ φ 4 = 108 ∧ φ 4 = 36) ∨ (¬ φ 4 = 108 ∧ ¬ φ 4 = 36 ∧ ∃ r c, r < 8 ∧ c < 7 ∧ φ 5 = nI r ∧ φ 6 = nI c)

theorem bendZ_x {z : zZ} {i : Nat} {t : Int32} (h1 : xOk z) (h2 : pinZ z) (hi : i < 56) (ht : t = 0 ∨ t = 1 ∨ t = -1) : xOk (bendZ z i t) ∧ pinZ (bendZ z i t) := by
  have hp : ∀ w : zZ, (∀ j, j < 56 → w (20 + j) = va_up z (20 + i) t (20 + j)) → pinZ w := fun w hw j hj => by
    rw [hw j hj]
    unfold va_up
    split
    · exact ht
    · exact h2 j hj
  unfold bendZ
  split
  · exact ⟨xOk_up (xOk_up h1 (by omega)) (by omega), hp _ (fun j hj => va_ne (by omega))⟩
  · split
    · exact ⟨xOk_up (xOk_up (xOk_up h1 (by omega)) (by omega)) (by omega), hp _ (fun j hj => by rw [va_ne (by omega), va_ne (by omega)])⟩
    · exact ⟨xOk_up h1 (by omega), hp _ (fun j hj => rfl)⟩

theorem feP_3 (f : Nat → Int32) (L : Nat) {i : Nat} (h : i < 4) : ∀ (k a : Nat) (φ : Nat → Int32), feP f L k a φ i = φ i := by
  intro k
  induction k with
  | zero => intro a φ; rfl
  | succ k ih =>
    intro a φ
    simp only [feP]
    split
    · split
      · exact rpP_3 _ _ _ _ h
      · split
        · rw [ih]; exact rpP_3 _ _ _ _ h
        · exact rpP_3 _ _ _ _ h
    · exact rpP_3 _ _ _ _ h

theorem inV_ge {v lo hi : Int32} (h : ¬ inV v lo hi = 0) : ¬ v < lo ∧ ¬ hi < v := by
  unfold inV at h
  constructor
  · intro h1; rw [if_pos h1] at h; exact h rfl
  · intro h1; by_cases h2 : v < lo
    · rw [if_pos h2] at h; exact h rfl
    · rw [if_neg h2, if_pos h1] at h; exact h rfl
theorem rnN_k (f : Nat → Int32) (L : Nat) {m : Nat} (hm : m < 1000) : ∀ (k : Nat) (s : Int32) (p : Nat), (∃ j, j ≤ m ∧ s = nI j) → ∃ j, j ≤ m ∧ (rnN f L (nI m) k (s, p)).1 = nI j := by
  intro k
  induction k with
  | zero => intro s p h; exact h
  | succ k ih =>
    intro s p h
    simp only [rnN]
    split
    · exact h
    · next h1 =>
      split
      · exact h
      · next h2 =>
        refine ih _ _ ?_
        obtain ⟨j, hj, rfl⟩ := h
        have hc : ¬ aT f L p < 48 ∧ ¬ 57 < aT f L p := by
          have h3 := inV_ge h1
          refine ⟨fun h4 => h3.1 ?_, h3.2⟩
          split
          · exact Int32.lt_iff_toInt_lt.mpr (by
              have h5 := Int32.lt_iff_toInt_lt.mp h4
              have e48 : (48 : Int32).toInt = 48 := by decide
              have e49 : (49 : Int32).toInt = 49 := by decide
              omega)
          · exact h4
        obtain ⟨d, hd, hd2⟩ := nI_of2 (M := 57) (n := 57) (by decide) (x := aT f L p) (fun q => hc.1 (Int32.lt_of_lt_of_le q (by decide))) (Int32.not_lt.mp hc.2)
        have hd3 : 48 ≤ d := by
          rw [hd2] at hc
          have := hc.1
          rw [show (48 : Int32) = nI 48 from rfl, nI_ltI (by omega) (by omega)] at this
          omega
        have e : 10 * nI j + aT f L p - 48 = nI (10 * j + d - 48) := by
          rw [hd2, show (10 : Int32) = nI 10 from rfl, zI_mul, nI_add, show (48 : Int32) = nI 48 from rfl, zI_sub (by omega)]
        refine ⟨10 * j + d - 48, ?_, e⟩
        rw [e, nI_ltI (by omega) (by omega)] at h2
        omega
theorem rnQ_k (f : Nat → Int32) (L : Nat) {m a : Nat} (hm : m < 1000) : ∃ j, j ≤ m ∧ (rnQ f L (nI m) a).1 = nI j := rnN_k f L hm (L - a) 0 a ⟨0, by omega, rfl⟩
theorem inV_ex {v : Int32} {k : Nat} (hk : k < 2 ^ 31) (h : ¬ inV v 0 (nI k) = 0) : ∃ r, r ≤ k ∧ v = nI r := by
  unfold inV at h
  by_cases h1 : v < 0
  · rw [if_pos h1] at h; exact absurd rfl h
  · rw [if_neg h1] at h
    by_cases h2 : nI k < v
    · rw [if_pos h2] at h; exact absurd rfl h
    · exact nI_of2 (nI_toInt hk) h1 (Int32.not_lt.mp h2)
theorem rpP_ok (f : Nat → Int32) (L a : Nat) (φ : Nat → Int32) (h : (rpS f L a).1 = true) : dpOk (rpP f L a φ) := by
  unfold rpS at h
  unfold rpP
  by_cases h1 : aT f L a = 36
  · rw [if_pos h1]
    exact Or.inr (Or.inl ⟨fun e => by
      have e2 : aT f L a = 108 := e
      rw [h1] at e2
      exact absurd e2 (by decide), h1⟩)
  · rw [if_neg h1] at h ⊢
    by_cases h2 : aT f L a = 108
    · rw [if_pos h2] at h ⊢
      by_cases h3 : inV (aT f L (a + 1) - 48) 0 6 = 0
      · rw [if_pos h3] at h; cases h
      · rw [if_neg h3] at h ⊢
        by_cases h4 : aT f L (a + 2) = 120
        · rw [if_pos h4]
          obtain ⟨c, hc, hc2⟩ := inV_ex (k := 6) (by decide) h3
          obtain ⟨k, hk, hk2⟩ := rnQ_k f L (m := 30) (a := a + 3) (by decide)
          exact Or.inl ⟨h2, c, k, by omega, by omega, hc2, hk2⟩
        · rw [if_neg h4] at h; cases h
    · rw [if_neg h2] at h ⊢
      by_cases h3 : aT f L a = 98
      · rw [if_pos h3] at h ⊢
        by_cases h4 : inV (aT f L (a + 1) - 48) 0 7 = 0
        · rw [if_pos h4] at h; cases h
        · rw [if_neg h4] at h ⊢
          by_cases h5 : inV (aT f L (a + 2) - 48) 0 6 = 0
          · rw [if_pos h5] at h; cases h
          · rw [if_neg h5]
            obtain ⟨r, hr, hr2⟩ := inV_ex (k := 7) (by decide) h4
            obtain ⟨c, hc, hc2⟩ := inV_ex (k := 6) (by decide) h5
            exact Or.inr (Or.inr ⟨h2, h1, r, c, by omega, by omega, hr2, hc2⟩)
      · rw [if_neg h3] at h; cases h
theorem plZ_x {c : Nat} (hc : c < 7) : ∀ (k : Nat) (q : zZ × Int32), xOk q.1 → pinZ q.1 → xOk (plZ c k q).1 ∧ pinZ (plZ c k q).1 := by
  intro k
  induction k with
  | zero => intro q h1 h2; exact ⟨h1, h2⟩
  | succ k ih =>
    intro q h1 h2
    simp only [plZ]
    split
    · exact ⟨h1, h2⟩
    · exact ih _ (lchZ_x h1 hc) (pinZ_of h2 (fun i h3 h4 => lchZ_keep _ hc h3 (by omega)))
theorem dpZ_x {φ : Nat → Int32} {z : zZ} (hd : dpOk φ) (h1 : xOk z) (h2 : pinZ z) : xOk (dpZ φ z).1 ∧ pinZ (dpZ φ z).1 := by
  unfold dpZ
  rcases hd with ⟨h4, c, k, hc, hk, h5, h6⟩ | ⟨h4, h4b⟩ | ⟨h4, h4b, r, c, hr, hc, h5, h6⟩
  · rw [if_pos h4, h5, nI_clamp (by omega)]
    exact plZ_x hc _ _ h1 h2
  · rw [if_neg h4, if_pos h4b]
    exact ⟨xOk_up (xOk_up h1 (by decide)) (by decide), pinZ_of h2 (fun i h3 h4 => by show buyZ z (φ 6) i = z i; unfold buyZ; rw [va_ne (by omega), va_ne (by omega)])⟩
  · rw [if_neg h4, if_neg h4b, h5, h6, nI_clamp (by omega), nI_clamp (by omega)]
    generalize ht : (if φ 7 = 60 then (-1 : Int32) else if φ 7 = 62 then 1 else 0) = t
    have ht2 : t = 0 ∨ t = 1 ∨ t = -1 := by
      rw [← ht]
      split
      · exact Or.inr (Or.inr rfl)
      · split
        · exact Or.inr (Or.inl rfl)
        · exact Or.inl rfl
    exact bendZ_x h1 h2 (by omega) ht2

