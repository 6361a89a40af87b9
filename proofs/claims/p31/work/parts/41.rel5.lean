/-! The relation; what each deed does to it -/
def RB (B : Nat) (β : zB) (z : zZ) : Prop := RV β z ∧ BL B β z ∧ ZI B z
theorem ZI_mono {B C : Nat} {z : zZ} (h : ZI B z) (hBC : B ≤ C) : ZI C z := by
  obtain ⟨h1, h2, h3, h4, h5, q, r, e1, e2, b1, b2⟩ := h
  exact ⟨h1, h2, h3, h4, h5, q, r, e1, e2, b1, by omega⟩
theorem RB.mono {B C : Nat} {β : zB} {z : zZ} (h : RB B β z) (hBC : B ≤ C) : RB C β z := ⟨h.1, BL_ext hBC h.2.1 rfl (fun _ _ => rfl) rfl (fun _ _ _ => rfl), ZI_mono h.2.2 hBC⟩
theorem RB.pin {B : Nat} {β : zB} {z : zZ} (h : RB B β z) : pinOk (β 1) := fun i hi => by
  rw [h.1.p hi]
  exact h.2.2.p i hi
theorem RB_lch {B : Nat} {β : zB} {z : zZ} (h : RB B β z) {c : Nat} (hc : c < 7) : RB (B + 1) (lchB β c) (lchZ z c) ∧ lchR β c = lchZr z c := by
  have h1 := RV_lch h.1 h.2.2 hc
  refine ⟨⟨h1.1, BL_ext (by omega) h.2.1 (lchB_l β c).2 (fun i _ => by rw [(lchB_l β c).1]) (lchZ_at hc (by omega)) (fun i a1 a2 => lchZ_at hc (by omega)), ZI_lch h.2.2 hc⟩, h1.2⟩
theorem RB_pl {c : Nat} (hc : c < 7) : ∀ (k : Nat) {B : Nat} {β : zB} {z : zZ} (s : Int32), RB B β z → RB (B + k) (plB c k (β, s)).1 (plZ c k (z, s)).1 ∧ (plB c k (β, s)).2 = (plZ c k (z, s)).2
  | 0, B, β, z, s, h => ⟨h, rfl⟩
  | k + 1, B, β, z, s, h => by
    have n0 := h.1.n (i := 0) (by omega)
    obtain ⟨h1, h2⟩ := RB_lch h hc
    have ih := RB_pl hc k (s + lchR β c) h1
    simp only [plB, plZ]
    rw [n0, h2] at *
    by_cases c1 : z (0 + 1) ≤ 0
    · rw [if_pos c1, if_pos c1]
      exact ⟨h.mono (by omega), rfl⟩
    · rw [if_neg c1, if_neg c1]
      rw [show B + (k + 1) = B + 1 + k by omega]
      exact ih
theorem RB_ext {B : Nat} {β γ : zB} {z w : zZ} (h : RB B β z) (hb : ∀ j i, j < 10 → i < lnB j → γ j i = β j i) (hz : ∀ k, k < 175 → w k = z k) : RB B γ w := by
  refine ⟨RV_ext h.1 hb hz, BL_ext (Nat.le_refl _) h.2.1 (hb 0 16 (by decide) (by decide)) (fun a ha => hb 2 a (by decide) ha) (hz 16 (by omega)) (fun i a1 a2 => hz i (by omega)), ?_⟩
  obtain ⟨h1, h2, h3, h4, h5, q, r, e1, e2, b1, b2⟩ := h.2.2
  refine ⟨xOk_of h1 (hz 0 (by omega)), pinZ_of h2 (fun i a1 a2 => hz i (by omega)), by rw [hz 10 (by omega)]; exact h3, by rw [hz 14 (by omega)]; exact h4, fun p hp => ?_, q, r, by rw [hz 3 (by omega)]; exact e1, by rw [hz 4 (by omega)]; exact e2, b1, b2⟩
  rw [hz _ (by omega), hz _ (by omega)]
  exact h5 p hp
theorem RB_cp {B : Nat} {α β : zB} {z : zZ} (h : RB B β z) : RB B (cpB α β) z := RB_ext h (fun _ _ hj hi => cpB_at hj hi) (fun _ _ => rfl)
/-- the row as it was saved -/
theorem RB_z {B : Nat} {β : zB} {z w : zZ} (h : RB B β z) (hz : ∀ k, k < 175 → w k = z k) : RB B β w := RB_ext h (fun _ _ _ _ => rfl) hz
theorem RB_buy {B : Nat} {β : zB} {z : zZ} (h : RB B β z) (k : Int32) : RB B (buyB β k) (buyZ z k) := by
  have n0 := h.1.n (i := 0) (by omega)
  have n1 := h.1.n (i := 1) (by omega)
  obtain ⟨h1, h2, h3, h4, h5, q, r, e1, e2, b1, b2⟩ := h.2.2
  refine ⟨?_, ?_, ?_⟩
  · unfold buyB buyZ
    rw [n0, n1]
    exact RV_num (RV_num h.1 (i := 0) (by omega) _) (i := 1) (by omega) _
  · exact BL_ext (Nat.le_refl _) h.2.1 rfl (fun _ _ => rfl) (by unfold buyZ; simp (disch := omega) only [va_ne]) (fun i a1 a2 => by unfold buyZ; simp (disch := omega) only [va_ne])
  · unfold buyZ
    refine ⟨xOk_up (xOk_up h1 (by omega)) (by omega), pinZ_of h2 (fun i a1 a2 => by simp (disch := omega) only [va_ne]), ?_, ?_, fun p hp => ?_, q, r, ?_, ?_, b1, b2⟩ <;> simp (disch := omega) only [va_ne]
    · exact h3
    · exact h4
    · exact h5 p hp
    · exact e1
    · exact e2
/-- one number is set: start, settings, x -/
theorem RB_num {B : Nat} {β : zB} {z : zZ} (h : RB B β z) {i j : Nat} {v : Int32} (hr : RV (up2 β 0 i v) (va_up z j v)) (hi : i ≠ 16) (hj : j = 0 ∨ j = 13 ∨ j = 14 ∨ j = 15) (hx : j = 0 → 0 ≤ v) (h14 : j = 14 → 0 ≤ v) : RB B (up2 β 0 i v) (va_up z j v) := by
  obtain ⟨h1, h2, h3, h4, h5, q, r, e1, e2, b1, b2⟩ := h.2.2
  refine ⟨hr, BL_ext (Nat.le_refl _) h.2.1 ?_ (fun a _ => by rw [u2ne (by omega)]) ?_ (fun i a1 a2 => ?_), ?_, pinZ_of h2 (fun i a1 a2 => ?_), ?_, ?_, fun p hp => ?_, q, r, ?_, ?_, b1, b2⟩
  · rw [u2at, va_ne (by omega)]
  · rw [va_ne (by omega)]
  · rw [va_ne (by omega)]
  · by_cases e : j = 0
    · subst e
      obtain ⟨a, ha, hv⟩ := nI_of (fun q => absurd (hx rfl) (Int32.not_le.mpr q))
      exact ⟨a, ha, by rw [vat]; exact hv⟩
    · exact xOk_up h1 (fun q => e q.symm)
  · rw [va_ne (by omega)]
  · rw [va_ne (by omega)]; exact h3
  · by_cases e : j = 14
    · subst e; rw [vat]; exact h14 rfl
    · rw [va_ne (by omega)]; exact h4
  · rw [va_ne (by omega), va_ne (by omega)]; exact h5 p hp
  · rw [va_ne (by omega)]; exact e1
  · rw [va_ne (by omega)]; exact e2
theorem RB_poc {B : Nat} {β : zB} {z : zZ} (h : RB B β z) {p : Nat} {k v : Int32} (hp : p < 7) (hk : k = 0 ∨ k = 1 ∨ k = 2) (hv : ∃ q, q ≤ 15 ∧ v = nI q) : RB B (chPocketB β p k v) (pocZ z p k v) := by
  obtain ⟨h1, h2, h3, h4, h5, q, r, e1, e2, b1, b2⟩ := h.2.2
  have hr := h.1
  have e4 := hr.k hp
  refine ⟨?_, BL_ext (Nat.le_refl _) h.2.1 ?_ (fun a _ => ?_) ?_ (fun i a1 a2 => ?_), xOk_of h1 ?_, pinZ_of h2 (fun i a1 a2 => ?_), ?_, ?_, fun q hq => ?_, q, r, ?_, ?_, b1, b2⟩
  · have hc : ∀ γ : zB, (∀ j, j ≠ 6 → γ j = β j) → (k = 2 → γ 6 p = (if β 4 p = 2 then β 6 p else 0)) → (∀ a, a ≠ p → γ 6 a = β 6 a) → RV (up2 (up2 γ 4 p k) 5 p v) (pocZ z p k v) := by
      intro γ g1 g2 g3
      unfold pocZ
      refine ⟨fun q q1 => ?_, ⟨?_, ?_, ?_⟩, fun q q1 => ?_, fun q q1 => ?_, fun q q1 => ?_, fun q q1 => ?_, fun q q1 q2 => ?_, fun q q1 => ?_, fun q q1 => ?_, fun q q1 => ?_⟩
      · simp (disch := omega) only [u2ne, va_ne, g1]; exact hr.n q1
      · simp (disch := omega) only [u2ne, va_ne, g1]; exact hr.x
      · simp (disch := omega) only [u2ne, va_ne, g1]; exact hr.s1
      · simp (disch := omega) only [u2ne, va_ne, g1]; exact hr.s2
      · simp (disch := omega) only [u2ne, va_ne, g1]; exact hr.p q1
      · simp (disch := omega) only [u2ne, va_ne, g1]; exact hr.t q1
      · by_cases e : q = p
        · subst e; simp (disch := omega) only [u2ne, u2at, va_ne, vat, Nat.add_zero]
        · simp (disch := omega) only [u2ne, u2at, va_ne, g1]; exact hr.k q1
      · by_cases e : q = p
        · subst e; simp (disch := omega) only [u2at, vat]
        · simp (disch := omega) only [u2ne, u2at, va_ne, g1]; exact hr.y q1
      · by_cases e : q = p
        · subst e
          simp (disch := omega) only [u2ne, u2at, vat] at q2
          simp (disch := omega) only [u2ne, va_ne, vat]
          rw [g2 q2, if_pos q2, e4]
          by_cases c : z (132 + 5 * q) = 2
          · rw [if_pos c, if_pos c]; exact hr.o hp (e4.trans c)
          · rw [if_neg c, if_neg c]
        · simp (disch := omega) only [u2ne, u2at, va_ne, g1] at q2
          simp (disch := omega) only [u2ne, va_ne]
          rw [g3 q e]
          exact hr.o q1 q2
      · simp (disch := omega) only [u2ne, va_ne, g1]; exact hr.c q1
      · simp (disch := omega) only [u2ne, va_ne, g1]; exact hr.g q1
      · simp (disch := omega) only [u2ne, va_ne, g1]; exact hr.w q1
    unfold chPocketB
    by_cases c : β 4 p = 2
    · rw [if_pos c]
      exact hc β (fun _ _ => rfl) (fun _ => by rw [if_pos c]) (fun _ _ => rfl)
    · rw [if_neg c]
      exact hc _ (fun j hj => u2ne hj) (fun _ => by rw [u2at, vat, if_neg c]) (fun a ha => by rw [u2at, va_ne ha])
  · unfold chPocketB
    split <;> simp (disch := omega) only [u2ne]
  · unfold chPocketB
    split <;> simp (disch := omega) only [u2ne]
  · unfold pocZ; simp (disch := omega) only [va_ne]
  · unfold pocZ; simp (disch := omega) only [va_ne]
  · unfold pocZ; simp (disch := omega) only [va_ne]
  · unfold pocZ; simp (disch := omega) only [va_ne]
  · unfold pocZ; simp (disch := omega) only [va_ne]; exact h3
  · unfold pocZ; simp (disch := omega) only [va_ne]; exact h4
  · unfold pocZ
    by_cases e : q = p
    · subst e
      simp (disch := omega) only [va_ne, vat, Nat.add_zero]
      exact ⟨hk, hv⟩
    · simp (disch := omega) only [va_ne]
      exact h5 q hq
  · unfold pocZ; simp (disch := omega) only [va_ne]; exact e1
  · unfold pocZ; simp (disch := omega) only [va_ne]; exact e2

