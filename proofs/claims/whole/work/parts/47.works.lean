/-! Works: what each part does, and all of them -/
theorem cAt_Q {f : Nat → Int32} {Q : Nat → Nat} (h : chr f Q) {L p : Nat} (hp : p < L) : cAt f L p = nI (Q p) := by
  unfold cAt
  rw [if_neg (by omega), (h p).1]
theorem dBl_Q {f : Nat → Int32} {Q : Nat → Nat} (h : chr f Q) {L p w : Nat} (hp : p < L) (h1 : 48 ≤ Q p) (h2 : Q p < 48 + w) (hw : w < 1000) : dBl f L (nI w) p = nI (Q p - 48) := by
  unfold dBl
  rw [cAt_Q h hp, show (48 : Int32) = nI 48 from rfl, zI_sub (by omega), if_neg (show ¬ nI (Q p - 48) < 0 from fun q => absurd ((nI_ltI (b := 0) (by omega) (by omega)).mp q) (by omega)), if_neg (show ¬ nI w ≤ nI (Q p - 48) from fun q => absurd ((nI_leI (by omega) (by omega)).mp q) (by omega))]
theorem nm_X {f : Nat → Int32} {Q : Nat → Nat} (h : chr f Q) {L most b : Nat} (hx : (rnX Q L most b).1 ≠ 0) : nmF f L b ((rnX Q L most b).2 - b) = nI (rnX Q L most b).1 := by
  unfold rnX at hx ⊢
  by_cases c0 : 49 ≤ aQ Q L b ∧ aQ Q L b ≤ 57
  · obtain ⟨hb1, a0⟩ := aQ_lt (Q := Q) (L := L) (p := b) (by omega)
    rw [a0] at c0 ⊢
    have d0 := dBl_Q h (w := 10) hb1 (by omega) (by omega) (by omega)
    rw [if_pos c0]
    by_cases c1 : 48 ≤ aQ Q L (b + 1) ∧ aQ Q L (b + 1) ≤ 57 ∧ 10 * (Q b - 48) + (aQ Q L (b + 1) - 48) ≤ most
    · obtain ⟨hb2, a1⟩ := aQ_lt (Q := Q) (L := L) (p := b + 1) (by omega)
      rw [a1] at c1 ⊢
      have d1 := dBl_Q h (w := 10) hb2 c1.1 (by omega) (by omega)
      rw [if_pos c1]
      show nmF f L b (b + 2 - b) = nI (10 * (Q b - 48) + (Q (b + 1) - 48))
      rw [show b + 2 - b = 2 by omega]
      show 10 * (10 * 0 + dBl f L (nI 10) (b + 0)) + dBl f L (nI 10) (b + 1) = _
      rw [d1, Nat.add_zero, d0, Int32.mul_zero, Int32.zero_add, show (10 : Int32) = nI 10 from rfl, zI_mul, zI_add]
    · rw [if_neg c1]
      show nmF f L b (b + 1 - b) = nI (Q b - 48)
      rw [show b + 1 - b = 1 by omega]
      show 10 * 0 + dBl f L (nI 10) (b + 0) = _
      rw [Nat.add_zero, d0, Int32.mul_zero, Int32.zero_add]
  · rw [if_neg c0] at hx
    exact absurd rfl hx
/-- what a part does to both -/
theorem deed {f : Nat → Int32} {Q : Nat → Nat} (h : chr f Q) {L a : Nat} (ha : a ≤ L) (hr : (rpS f L a).1 = true) (hB : ∀ j, j < a → True) : pdOk f L a (rpS f L a).2 ∧ ∀ (B : Nat) (β : zB) (z : zZ) (φ : Nat → Int32), RB B β z → RB (B + 30) (pdB f L a (rpS f L a).2 β).1 (dpZ (rpP f L a φ) z).1 ∧ (pdB f L a (rpS f L a).2 β).2 = (dpZ (rpP f L a φ) z).2 := by
  obtain ⟨e0, l0⟩ := aT_aQ h L a
  obtain ⟨e1, l1⟩ := aT_aQ h L (a + 1)
  obtain ⟨e2, l2⟩ := aT_aQ h L (a + 2)
  obtain ⟨e3, l3⟩ := aT_aQ h L (a + 3)
  by_cases c36 : aQ Q L a = 36
  · obtain ⟨ha1, a0⟩ := aQ_lt (Q := Q) (L := L) (p := a) (by omega)
    have t36 : aT f L a = 36 := by rw [e0, c36]; rfl
    have k36 : cAt f L a = 36 := by rw [cAt_Q h ha1, ← a0, c36]; rfl
    have er : rpS f L a = rnE (rnQ f L 99 (a + 1)) := by unfold rpS; rw [if_pos t36]
    have ex := rn_X h (L := L) (most := 99) (b := a + 1) (by omega) (by omega) (by omega)
    have hne : (rnX Q L 99 (a + 1)).1 ≠ 0 := fun q => by
      rw [er, show (99 : Int32) = nI 99 from rfl, ex, rnE_f (by show nI _ = 0; rw [q]; rfl)] at hr
      exact absurd hr Bool.false_ne_true
    have ep : (rpS f L a).2 = (rnX Q L 99 (a + 1)).2 := by
      rw [er, show (99 : Int32) = nI 99 from rfl, ex, rnE_2]
    have n108 : ¬ cAt f L a = 108 := by rw [k36]; decide
    have n98 : ¬ cAt f L a = 98 := by rw [k36]; decide
    refine ⟨Or.inr (Or.inr ⟨n98, n108⟩), fun B β z φ hz => ?_⟩
    have p4 : rpP f L a φ 4 = 36 := by unfold rpP; rw [if_pos t36, va_ne (by omega), vat]; exact t36
    have p6 : rpP f L a φ 6 = nI (rnX Q L 99 (a + 1)).1 := by unfold rpP; rw [if_pos t36, vat, show (99 : Int32) = nI 99 from rfl, ex]
    unfold pdB dpZ
    rw [if_neg n108, if_neg n98, p4, if_neg (by decide), if_pos rfl, p6, ep, nm_X h hne]
    exact ⟨(RB_buy hz _).mono (by omega), rfl⟩
  · have n36 : ¬ aT f L a = 36 := by rw [e0]; exact fun q => c36 ((nI_eq (b := 36) (by omega) (by omega)).mp q)
    by_cases c108 : aQ Q L a = 108
    · obtain ⟨ha1, a0⟩ := aQ_lt (Q := Q) (L := L) (p := a) (by omega)
      have t108 : aT f L a = 108 := by rw [e0, c108]; rfl
      have k108 : cAt f L a = 108 := by rw [cAt_Q h ha1, ← a0, c108]; rfl
      have d1 : 48 ≤ aQ Q L (a + 1) ∧ aQ Q L (a + 1) ≤ 54 := by
        refine Decidable.byContradiction fun q => ?_
        unfold rpS at hr
        rw [if_neg n36, if_pos t108, e1, if_pos ((q_in6 _ l1).mpr q)] at hr
        exact absurd hr Bool.false_ne_true
      have i1 : ¬ inV (aT f L (a + 1) - 48) 0 6 = 0 := by rw [e1]; exact fun q => (q_in6 _ l1).mp q d1
      have d2 : aT f L (a + 2) = 120 := by
        refine Decidable.byContradiction fun q => ?_
        unfold rpS at hr
        rw [if_neg n36, if_pos t108, if_neg i1, if_neg q] at hr
        exact absurd hr Bool.false_ne_true
      obtain ⟨ha2, a1⟩ := aQ_lt (Q := Q) (L := L) (p := a + 1) (by omega)
      have q2 : aQ Q L (a + 2) = 120 := (nI_eq (b := 120) (by omega) (by omega)).mp (e2.symm.trans d2)
      obtain ⟨ha3, a2⟩ := aQ_lt (Q := Q) (L := L) (p := a + 2) (by omega)
      have er : rpS f L a = rnE (rnQ f L 30 (a + 3)) := by unfold rpS; rw [if_neg n36, if_pos t108, if_neg i1, if_pos d2]
      have ex := rn_X h (L := L) (most := 30) (b := a + 3) (by omega) (by omega) (by omega)
      have hne : (rnX Q L 30 (a + 3)).1 ≠ 0 := fun q => by
        rw [er, show (30 : Int32) = nI 30 from rfl, ex, rnE_f (by show nI _ = 0; rw [q]; rfl)] at hr
        exact absurd hr Bool.false_ne_true
      have hk : (rnX Q L 30 (a + 3)).1 ≤ 30 := by
        unfold rnX
        split
        · split
          · rename_i w; exact w.2.2
          · dsimp only; omega
        · dsimp only; omega
      have ep : (rpS f L a).2 = (rnX Q L 30 (a + 3)).2 := by
        rw [er, show (30 : Int32) = nI 30 from rfl, ex, rnE_2]
      have ed : dBl f L 7 (a + 1) = _ := dBl_Q h (w := 7) ha2 (by omega) (by omega) (by omega)
      have en := nm_X h hne
      refine ⟨Or.inl ⟨k108, Q (a + 1) - 48, (rnX Q L 30 (a + 3)).1, by omega, by omega, ed, by rw [ep]; exact en⟩, fun B β z φ hz => ?_⟩
      have p4 : rpP f L a φ 4 = 108 := by unfold rpP; rw [if_neg n36, if_pos t108, if_neg i1, if_pos d2]; simp (disch := omega) only [va_ne, vat]; exact t108
      have p5 : rpP f L a φ 5 = nI (Q (a + 1) - 48) := by
        unfold rpP
        rw [if_neg n36, if_pos t108, if_neg i1, if_pos d2]
        simp (disch := omega) only [va_ne, vat]
        rw [e1, a1, show (48 : Int32) = nI 48 from rfl, zI_sub (by omega)]
      have p6 : rpP f L a φ 6 = nI (rnX Q L 30 (a + 3)).1 := by
        unfold rpP
        rw [if_neg n36, if_pos t108, if_neg i1, if_pos d2, vat, show (30 : Int32) = nI 30 from rfl, ex]
      unfold pdB dpZ
      rw [if_pos k108, p4, if_pos rfl, p5, p6, ep, ed, en, nI_clamp (by omega), nI_clamp (by omega)]
      have := RB_pl (c := Q (a + 1) - 48) (by omega) (rnX Q L 30 (a + 3)).1 0 hz
      exact ⟨this.1.mono (by omega), this.2⟩
    · have n108 : ¬ aT f L a = 108 := by rw [e0]; exact fun q => c108 ((nI_eq (b := 108) (by omega) (by omega)).mp q)
      have t98 : aT f L a = 98 := by
        refine Decidable.byContradiction fun q => ?_
        unfold rpS at hr
        rw [if_neg n36, if_neg n108, if_neg q] at hr
        exact absurd hr Bool.false_ne_true
      have c98 : aQ Q L a = 98 := (nI_eq (b := 98) (by omega) (by omega)).mp (e0.symm.trans t98)
      obtain ⟨ha1, a0⟩ := aQ_lt (Q := Q) (L := L) (p := a) (by omega)
      have k98 : cAt f L a = 98 := by rw [cAt_Q h ha1, ← a0, c98]; rfl
      have k108 : ¬ cAt f L a = 108 := by rw [k98]; decide
      have d1 : 48 ≤ aQ Q L (a + 1) ∧ aQ Q L (a + 1) ≤ 55 := by
        refine Decidable.byContradiction fun q => ?_
        unfold rpS at hr
        rw [if_neg n36, if_neg n108, if_pos t98, e1, if_pos ((q_in7 _ l1).mpr q)] at hr
        exact absurd hr Bool.false_ne_true
      have i1 : ¬ inV (aT f L (a + 1) - 48) 0 7 = 0 := by rw [e1]; exact fun q => (q_in7 _ l1).mp q d1
      have d2 : 48 ≤ aQ Q L (a + 2) ∧ aQ Q L (a + 2) ≤ 54 := by
        refine Decidable.byContradiction fun q => ?_
        unfold rpS at hr
        rw [if_neg n36, if_neg n108, if_pos t98, if_neg i1, e2, if_pos ((q_in6 _ l2).mpr q)] at hr
        exact absurd hr Bool.false_ne_true
      have i2 : ¬ inV (aT f L (a + 2) - 48) 0 6 = 0 := by rw [e2]; exact fun q => (q_in6 _ l2).mp q d2
      obtain ⟨ha2, a1⟩ := aQ_lt (Q := Q) (L := L) (p := a + 1) (by omega)
      obtain ⟨ha3, a2⟩ := aQ_lt (Q := Q) (L := L) (p := a + 2) (by omega)
      have d3 : aQ Q L (a + 3) ≠ 0 := fun q => by
        unfold rpS at hr
        rw [if_neg n36, if_neg n108, if_pos t98, if_neg i1, if_neg i2, e3, q, if_neg (show ¬ nI 0 = 60 by decide), if_neg (show ¬ nI 0 = 124 by decide), if_neg (show ¬ nI 0 = 62 by decide)] at hr
        exact absurd hr Bool.false_ne_true
      obtain ⟨ha4, a3⟩ := aQ_lt (Q := Q) (L := L) (p := a + 3) d3
      have ed1 : dBl f L 8 (a + 1) = _ := dBl_Q h (w := 8) ha2 (by omega) (by omega) (by omega)
      have ed2 : dBl f L 7 (a + 2) = _ := dBl_Q h (w := 7) ha3 (by omega) (by omega) (by omega)
      refine ⟨Or.inr (Or.inl ⟨k98, Q (a + 1) - 48, Q (a + 2) - 48, by omega, by omega, ed1, ed2⟩), fun B β z φ hz => ?_⟩
      have eP : rpP f L a φ = va_up (va_up (va_up (va_up φ 4 (aT f L a)) 5 (aT f L (a + 1) - 48)) 6 (aT f L (a + 2) - 48)) 7 (aT f L (a + 3)) := by
        unfold rpP
        rw [if_neg n36, if_neg n108, if_pos t98, if_neg i1, if_neg i2]
      have p4 : rpP f L a φ 4 = 98 := by rw [eP]; simp (disch := omega) only [va_ne, vat]; exact t98
      have p5 : rpP f L a φ 5 = nI (Q (a + 1) - 48) := by
        rw [eP]
        simp (disch := omega) only [va_ne, vat]
        rw [e1, a1, show (48 : Int32) = nI 48 from rfl, zI_sub (by omega)]
      have p6 : rpP f L a φ 6 = nI (Q (a + 2) - 48) := by
        rw [eP]
        simp (disch := omega) only [va_ne, vat]
        rw [e2, a2, show (48 : Int32) = nI 48 from rfl, zI_sub (by omega)]
      have p7 : rpP f L a φ 7 = cAt f L (a + 3) := by
        rw [eP, vat, e3, a3, cAt_Q h ha4]
      have hm := RB_16 hz
      unfold pdB dpZ
      rw [if_neg k108, if_pos k98, p4, if_neg (by decide), if_neg (by decide), p5, p6, p7, ed1, ed2, nI_clamp (by omega), nI_clamp (by omega), hm.1, nI_clamp (by omega), Nat.mul_comm 7]
      refine ⟨(RB_bend hz (i := (Q (a + 1) - 48) * 7 + (Q (a + 2) - 48)) (m := bpC z 56) (by omega) ?_ hm.1 hm.2.1).mono (by omega), rfl⟩
      unfold bAt
      split
      · exact Or.inr (Or.inr rfl)
      · split
        · exact Or.inr (Or.inl rfl)
        · exact Or.inl rfl
theorem cw_skip {f : Nat → Int32} {L fr : Nat} : ∀ (r k a : Nat) (q : zB × Int32), (∀ j, a ≤ j → j < a + r → ePart f L j = 0) → cwN f L (r + k) a fr q = cwN f L k (a + r) fr q
  | 0, k, a, q, _ => by rw [Nat.zero_add]; rfl
  | r + 1, k, a, q, h => by
    rw [show r + 1 + k = (r + k) + 1 by omega]
    show (if ePart f L a = 0 then cwN f L (r + k) (a + 1) fr q else _) = _
    rw [if_pos (h a (by omega) (by omega)), cw_skip r k (a + 1) q (fun j j1 j2 => h j (by omega) (by omega)), show a + 1 + r = a + (r + 1) by omega]
theorem cwOk_skip {f : Nat → Int32} {L fr : Nat} : ∀ (r k a : Nat), (∀ j, a ≤ j → j < a + r → ePart f L j = 0) → cwOk f L (r + k) a fr = cwOk f L k (a + r) fr
  | 0, k, a, _ => by rw [Nat.zero_add]; rfl
  | r + 1, k, a, h => by
    rw [show r + 1 + k = (r + k) + 1 by omega]
    show (if ePart f L a = 0 then cwOk f L (r + k) (a + 1) fr else _) = _
    rw [if_pos (h a (by omega) (by omega)), cwOk_skip r k (a + 1) (fun j j1 j2 => h j (by omega) (by omega)), show a + 1 + r = a + (r + 1) by omega]
theorem wk_end {f : Nat → Int32} {L a : Nat} (h : L ≤ a) : ∀ (k : Nat) (q : zZ × Int32 × (Nat → Int32)), wkN f L k a q = q
  | 0, _ => rfl
  | k + 1, q => if_neg (by omega)
theorem works {f : Nat → Int32} {Q : Nat → Nat} (h : chr f Q) {L : Nat} (hL : L ≤ 60) : ∀ (k a : Nat), a ≤ L → L + 1 ≤ k + a → stN f a = 0 → feN f L k a = -1 → cwOk f L (L + 1 - a) a a ∧ ∀ (B : Nat) (β : zB) (z : zZ) (s : Int32) (φ : Nat → Int32), RB B β z → RB (B + 30 * k) (cwN f L (L + 1 - a) a a (β, s)).1 (wkN f L k a (z, s, φ)).1 ∧ (cwN f L (L + 1 - a) a a (β, s)).2 = (wkN f L k a (z, s, φ)).2.1
  | 0, a, ha, hk, _, _ => absurd hk (by omega)
  | k + 1, a, ha, hk, h0, hfe => by
    have es : feN f L (k + 1) a = if (rpS f L a).1 = true then (if (rpS f L a).2 = L then -1 else if f (rpS f L a).2 = 59 then feN f L k ((rpS f L a).2 + 1) else nI (rpS f L a).2) else nI (rpS f L a).2 := rfl
    rw [es] at hfe
    have hpos : ∀ p, p ≤ L → nI p ≠ -1 := fun p hp q => absurd (nI_pos (n := p) (by omega)) (by rw [q]; decide)
    rcases part_rd h ha h0 with ⟨e, g1, g2, g3, g4, g5, g6⟩ | ⟨e, b1, b2, b3, b4⟩
    · rw [if_pos e] at hfe
      obtain ⟨hd, hdd⟩ := deed h ha e (fun _ _ => trivial)
      have hep : ∀ j, a ≤ j → j < a + ((rpS f L a).2 - a) → ePart f L j = 0 := fun j j1 j2 => by
        unfold ePart cAt
        rw [if_neg (show ¬ j = L by omega), if_neg (show ¬ L ≤ j by omega), if_neg (g5 j j1 (by omega))]
      have ha1 : a < L := by omega
      have ew : ∀ z s φ, wkN f L (k + 1) a (z, s, φ) = wkN f L k ((rpS f L a).2 + 1) ((dpZ (rpP f L a φ) z).1, s + (dpZ (rpP f L a φ) z).2, rpP f L a φ) := fun z s φ => if_pos ha1
      have hone : ePart f L (rpS f L a).2 = 1 → ¬ ePart f L (rpS f L a).2 = 0 := fun q w => by rw [q] at w; exact absurd w (by decide)
      have e9 : L + 1 - a = ((rpS f L a).2 - a) + ((L - (rpS f L a).2) + 1) := by omega
      rw [e9, cwOk_skip _ _ a hep, show a + ((rpS f L a).2 - a) = (rpS f L a).2 by omega]
      have ec : ∀ q, cwN f L (((rpS f L a).2 - a) + ((L - (rpS f L a).2) + 1)) a a q = cwN f L ((L - (rpS f L a).2) + 1) (rpS f L a).2 a q := fun q => by
        rw [cw_skip _ _ a q hep, show a + ((rpS f L a).2 - a) = (rpS f L a).2 by omega]
      have es2 : ∀ (kk : Nat) (q : zB × Int32), ePart f L (rpS f L a).2 = 1 → cwN f L (kk + 1) (rpS f L a).2 a q = cwN f L kk ((rpS f L a).2 + 1) ((rpS f L a).2 + 1) ((pdB f L a (rpS f L a).2 q.1).1, q.2 + (pdB f L a (rpS f L a).2 q.1).2) := fun kk q w => if_neg (hone w)
      have es3 : ∀ kk, ePart f L (rpS f L a).2 = 1 → cwOk f L (kk + 1) (rpS f L a).2 a = (pdOk f L a (rpS f L a).2 ∧ cwOk f L kk ((rpS f L a).2 + 1) ((rpS f L a).2 + 1)) := fun kk w => if_neg (hone w)
      by_cases c : (rpS f L a).2 = L
      · have h1 : ePart f L (rpS f L a).2 = 1 := by unfold ePart; rw [if_pos c]
        rw [es3 _ h1]
        have e0 : L - (rpS f L a).2 = 0 := by omega
        refine ⟨⟨hd, by rw [e0]; trivial⟩, fun B β z s φ hz => ?_⟩
        obtain ⟨r1, r2⟩ := hdd B β z φ hz
        rw [ec, es2 _ _ h1, ew, wk_end (by omega), e0]
        refine ⟨r1.mono (by omega), ?_⟩
        show s + _ = s + _
        rw [r2]
      · rw [if_neg c] at hfe
        by_cases c2 : f (rpS f L a).2 = 59
        · rw [if_pos c2] at hfe
          have h1 : ePart f L (rpS f L a).2 = 1 := by
            unfold ePart cAt
            rw [if_neg c, if_neg (show ¬ L ≤ (rpS f L a).2 by omega), if_pos c2]
          have ih := works h hL k ((rpS f L a).2 + 1) (by omega) (by omega) ((g6 (by omega)).1 c2) hfe
          rw [show L + 1 - ((rpS f L a).2 + 1) = L - (rpS f L a).2 by omega] at ih
          rw [es3 _ h1]
          refine ⟨⟨hd, ih.1⟩, fun B β z s φ hz => ?_⟩
          obtain ⟨r1, r2⟩ := hdd B β z φ hz
          rw [ec, es2 _ _ h1, ew]
          have := ih.2 (B + 30) _ _ (s + (dpZ (rpP f L a φ) z).2) (rpP f L a φ) r1
          rw [show B + 30 * (k + 1) = B + 30 + 30 * k by omega]
          dsimp only
          rw [r2]
          exact this
        · rw [if_neg c2] at hfe
          exact absurd hfe (hpos _ g2)
    · rw [if_neg (by rw [e]; decide)] at hfe
      exact absurd hfe (hpos _ b1)
/-- the boards that stay fit for a part's deed -/
theorem pd_keep {f : Nat → Int32} {L : Nat} {γ : zB} {p u : Nat} (hJ : ∃ B z, RB B γ z) (hd : pdOk f L p u) : ∃ B z, RB B (pdB f L p u γ).1 z := by
  obtain ⟨B, z, h⟩ := hJ
  unfold pdB
  rcases hd with ⟨h4, c1, k, hc, hk, h5, h6⟩ | ⟨h4, r, c1, hr, hc, h5, h6⟩ | ⟨h4, h4b⟩
  · rw [if_pos h4, h5, h6, nI_clamp (by omega), nI_clamp (by omega)]
    exact ⟨_, _, (RB_pl hc k 0 h).1⟩
  · have hm := RB_16 h
    rw [if_neg (by rw [h4]; decide), if_pos h4, h5, h6, nI_clamp (by omega), nI_clamp (by omega), hm.1, nI_clamp (by omega)]
    refine ⟨_, _, RB_bend h (i := r * 7 + c1) (m := bpC z 56) (by omega) ?_ hm.1 hm.2.1⟩
    unfold bAt
    split
    · exact Or.inr (Or.inr rfl)
    · split
      · exact Or.inr (Or.inl rfl)
      · exact Or.inl rfl
  · rw [if_neg h4b, if_neg h4]
    exact ⟨_, _, RB_buy h _⟩
theorem RB_BI {B : Nat} {γ : zB} {z : zZ} (h : RB B γ z) : ∃ m, BI γ m := ⟨bpC z 56, h.pin, (RB_16 h).1, (RB_16 h).2.1, (RB_16 h).2.2⟩
