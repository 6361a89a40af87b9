/-! Texts: a part, all parts -/
theorem rnE_f {q : Int32 × Nat} (h : q.1 = 0) : rnE q = (false, q.2) := if_pos h
theorem rnE_t {q : Int32 × Nat} (h : ¬ q.1 = 0) : rnE q = (true, q.2) := if_neg h
/-- a number behind what is read already -/
theorem num_part {f : Nat → Int32} {Q : Nat → Nat} (h : chr f Q) {L most a b : Nat} (hs : (stN f b = 3 ∧ most = 30) ∨ (stN f b = 7 ∧ most = 99)) (hb : b ≤ L) (hab : a < b) (hj : ∀ j, a < j → j ≤ b → ¬ stN f j = -1) (h59 : ∀ j, a ≤ j → j < b → ¬ f j = 59) : ((rnE (rnQ f L (nI most) b)).1 = true ∧ good f L a (rnE (rnQ f L (nI most) b)).2) ∨ ((rnE (rnQ f L (nI most) b)).1 = false ∧ bad f L a (rnE (rnQ f L (nI most) b)).2) := by
  have hm : most ≤ 99 ∧ 9 ≤ most := by rcases hs with ⟨-, e⟩ | ⟨-, e⟩ <;> omega
  obtain ⟨n1, n2⟩ := num_rd h hs hb
  rw [rn_X h hm.1 hm.2 hb]
  by_cases c : (rnX Q L most b).1 = 0
  · obtain ⟨e, b1, b2, b3, b4⟩ := n1 c
    rw [rnE_f (by show nI (rnX Q L most b).1 = 0; rw [c]; rfl)]
    exact Or.inr ⟨rfl, by show _ ≤ L; omega, fun j j1 j2 => hj j j1 (by dsimp only at j2; omega), by dsimp only; rw [e]; exact b3, by dsimp only; rw [e]; exact b4⟩
  · obtain ⟨⟨g1, g2, g3, g4, g5, g6⟩, g7⟩ := n2 c
    rw [rnE_t (nI_ne0 (show 0 < (rnX Q L most b).1 by omega) (by omega))]
    refine Or.inl ⟨rfl, by dsimp only; omega, g2, fun j j1 j2 => ?_, g4, fun j j1 j2 => ?_, g6⟩
    · by_cases w : j ≤ b
      · exact hj j j1 w
      · exact g3 j (by omega) j2
    · by_cases w : j < b
      · exact h59 j j1 w
      · exact g5 j (by omega) j2
theorem part_rd {f : Nat → Int32} {Q : Nat → Nat} (h : chr f Q) {L a : Nat} (ha : a ≤ L) (h0 : stN f a = 0) : ((rpS f L a).1 = true ∧ good f L a (rpS f L a).2) ∨ ((rpS f L a).1 = false ∧ bad f L a (rpS f L a).2) := by
  obtain ⟨e0, l0⟩ := aT_aQ h L a
  obtain ⟨e1, l1⟩ := aT_aQ h L (a + 1)
  obtain ⟨e2, l2⟩ := aT_aQ h L (a + 2)
  obtain ⟨e3, l3⟩ := aT_aQ h L (a + 3)
  have s1 : stN f (a + 1) = stp 0 (nI (Q a)) := by rw [stN_s, (h a).1, h0]
  have s2 : stN f (a + 2) = stp (stN f (a + 1)) (nI (Q (a + 1))) := by rw [stN_s f (a + 1), (h (a + 1)).1]
  have s3 : stN f (a + 3) = stp (stN f (a + 2)) (nI (Q (a + 2))) := by rw [stN_s f (a + 2), (h (a + 2)).1]
  have s4 : stN f (a + 4) = stp (stN f (a + 3)) (nI (Q (a + 3))) := by rw [stN_s f (a + 3), (h (a + 3)).1]
  have s5 : stN f (a + 5) = stp (stN f (a + 4)) (nI (Q (a + 4))) := by rw [stN_s f (a + 4), (h (a + 4)).1]
  have g0 := f59 h a
  have g1 := f59 h (a + 1)
  have g2 := f59 h (a + 2)
  have g3 := f59 h (a + 3)
  have g4 := f59 h (a + 4)
  have hq0 := (h a).2
  have hq1 := (h (a + 1)).2
  have hq2 := (h (a + 2)).2
  have hq3 := (h (a + 3)).2
  have hq4 := (h (a + 4)).2
  rw [q_0 _ hq0] at s1
  unfold rpS
  rw [e0, e1, e2, e3]
  by_cases c36 : aQ Q L a = 36
  · obtain ⟨ha1, a0⟩ := aQ_lt (Q := Q) (L := L) (p := a) (by omega)
    rw [if_pos (by rw [c36]; rfl)]
    rw [if_pos (by omega)] at s1
    exact num_part h (most := 99) (Or.inr ⟨s1, rfl⟩) (by omega) (by omega) (fun j j1 j2 => by rw [show j = a + 1 by omega, s1]; decide) (fun j j1 j2 => by rw [show j = a by omega, g0]; omega)
  · rw [if_neg (show ¬ nI (aQ Q L a) = 36 from fun q => c36 ((nI_eq (b := 36) (by omega) (by omega)).mp q))]
    by_cases c108 : aQ Q L a = 108
    · obtain ⟨ha1, a0⟩ := aQ_lt (Q := Q) (L := L) (p := a) (by omega)
      rw [if_pos (by rw [c108]; rfl)]
      rw [if_neg (by omega), if_neg (by omega), if_pos (by omega)] at s1
      by_cases d1 : 48 ≤ aQ Q L (a + 1) ∧ aQ Q L (a + 1) ≤ 54
      · obtain ⟨ha2, a1⟩ := aQ_lt (Q := Q) (L := L) (p := a + 1) (by omega)
        rw [if_neg (fun q => (q_in6 _ l1).mp q d1)]
        rw [s1, q_1 _ hq1, if_pos (by omega)] at s2
        by_cases d2 : aQ Q L (a + 2) = 120
        · obtain ⟨ha3, a2⟩ := aQ_lt (Q := Q) (L := L) (p := a + 2) (by omega)
          rw [if_pos (by rw [d2]; rfl)]
          rw [s2, q_2 _ hq2, if_pos (by omega)] at s3
          refine num_part h (most := 30) (Or.inl ⟨s3, rfl⟩) (by omega) (by omega) (fun j j1 j2 => ?_) (fun j j1 j2 => ?_)
          · rcases (show j = a + 1 ∨ j = a + 2 ∨ j = a + 3 by omega) with rfl | rfl | rfl
            · rw [s1]; decide
            · rw [s2]; decide
            · rw [s3]; decide
          · rcases (show j = a ∨ j = a + 1 ∨ j = a + 2 by omega) with rfl | rfl | rfl
            · rw [g0]; omega
            · rw [g1]; omega
            · rw [g2]; omega
        · rw [if_neg (show ¬ nI (aQ Q L (a + 2)) = 120 from fun q => d2 ((nI_eq (b := 120) (by omega) (by omega)).mp q))]
          refine Or.inr ⟨rfl, by dsimp only; omega, fun j j1 j2 => ?_, fun hl => ?_, ?_⟩
          · rcases (show j = a + 1 ∨ j = a + 2 by dsimp only at j2; omega) with rfl | rfl
            · rw [s1]; decide
            · rw [s2]; decide
          · dsimp only at hl
            rw [aQ_in hl] at d2
            show stN f (a + 3) = -1
            rw [s3, s2, q_2 _ hq2, if_neg d2]
          · show stN f (a + 2) < 8
            rw [s2]; decide
      · rw [if_pos ((q_in6 _ l1).mpr d1)]
        refine Or.inr ⟨rfl, by dsimp only; omega, fun j j1 j2 => ?_, fun hl => ?_, ?_⟩
        · rw [show j = a + 1 by dsimp only at j2; omega, s1]; decide
        · dsimp only at hl
          rw [aQ_in hl] at d1
          show stN f (a + 2) = -1
          rw [s2, s1, q_1 _ hq1, if_neg d1]
        · show stN f (a + 1) < 8
          rw [s1]; decide
    · rw [if_neg (show ¬ nI (aQ Q L a) = 108 from fun q => c108 ((nI_eq (b := 108) (by omega) (by omega)).mp q))]
      by_cases c98 : aQ Q L a = 98
      · obtain ⟨ha1, a0⟩ := aQ_lt (Q := Q) (L := L) (p := a) (by omega)
        rw [if_pos (by rw [c98]; rfl)]
        rw [if_neg (by omega), if_pos (by omega)] at s1
        by_cases d1 : 48 ≤ aQ Q L (a + 1) ∧ aQ Q L (a + 1) ≤ 55
        · obtain ⟨ha2, a1⟩ := aQ_lt (Q := Q) (L := L) (p := a + 1) (by omega)
          rw [if_neg (fun q => (q_in7 _ l1).mp q d1)]
          rw [s1, q_4 _ hq1, if_pos (by omega)] at s2
          by_cases d2 : 48 ≤ aQ Q L (a + 2) ∧ aQ Q L (a + 2) ≤ 54
          · obtain ⟨ha3, a2⟩ := aQ_lt (Q := Q) (L := L) (p := a + 2) (by omega)
            rw [if_neg (fun q => (q_in6 _ l2).mp q d2)]
            rw [s2, q_5 _ hq2, if_pos (by omega)] at s3
            by_cases d3 : aQ Q L (a + 3) = 60 ∨ aQ Q L (a + 3) = 124 ∨ aQ Q L (a + 3) = 62
            · obtain ⟨ha4, a3⟩ := aQ_lt (Q := Q) (L := L) (p := a + 3) (by omega)
              rw [s3, q_6 _ hq3, if_pos (by omega)] at s4
              have t5 : stN f (a + 5) = if Q (a + 4) = 59 then 0 else -1 := by rw [s5, s4, q_10 _ hq4]
              have key : good f L a (a + 4) := by
                refine ⟨by omega, by omega, fun j j1 j2 => ?_, by rw [s4]; decide, fun j j1 j2 => ?_, fun hp => ⟨fun q => ?_, fun q => ?_⟩⟩
                · rcases (show j = a + 1 ∨ j = a + 2 ∨ j = a + 3 ∨ j = a + 4 by omega) with rfl | rfl | rfl | rfl
                  · rw [s1]; decide
                  · rw [s2]; decide
                  · rw [s3]; decide
                  · rw [s4]; decide
                · rcases (show j = a ∨ j = a + 1 ∨ j = a + 2 ∨ j = a + 3 by omega) with rfl | rfl | rfl | rfl
                  · rw [g0]; omega
                  · rw [g1]; omega
                  · rw [g2]; omega
                  · rw [g3]; omega
                · rw [t5, if_pos (g4.mp q)]
                · rw [t5, if_neg (fun w => q (g4.mpr w))]
              have e : (if nI (aQ Q L (a + 3)) = 60 then (true, a + 4) else if nI (aQ Q L (a + 3)) = 124 then (true, a + 4) else if nI (aQ Q L (a + 3)) = 62 then (true, a + 4) else (false, a + 3)) = (true, a + 4) := by
                rcases d3 with w | w | w <;> rw [w] <;> rfl
              rw [e]
              exact Or.inl ⟨rfl, key⟩
            · rw [if_neg (show ¬ nI (aQ Q L (a + 3)) = 60 from fun q => d3 (Or.inl ((nI_eq (b := 60) (by omega) (by omega)).mp q))), if_neg (show ¬ nI (aQ Q L (a + 3)) = 124 from fun q => d3 (Or.inr (Or.inl ((nI_eq (b := 124) (by omega) (by omega)).mp q)))), if_neg (show ¬ nI (aQ Q L (a + 3)) = 62 from fun q => d3 (Or.inr (Or.inr ((nI_eq (b := 62) (by omega) (by omega)).mp q))))]
              refine Or.inr ⟨rfl, by dsimp only; omega, fun j j1 j2 => ?_, fun hl => ?_, ?_⟩
              · rcases (show j = a + 1 ∨ j = a + 2 ∨ j = a + 3 by dsimp only at j2; omega) with rfl | rfl | rfl
                · rw [s1]; decide
                · rw [s2]; decide
                · rw [s3]; decide
              · dsimp only at hl
                rw [aQ_in hl] at d3
                show stN f (a + 4) = -1
                rw [s4, s3, q_6 _ hq3, if_neg d3]
              · show stN f (a + 3) < 8
                rw [s3]; decide
          · rw [if_pos ((q_in6 _ l2).mpr d2)]
            refine Or.inr ⟨rfl, by dsimp only; omega, fun j j1 j2 => ?_, fun hl => ?_, ?_⟩
            · rcases (show j = a + 1 ∨ j = a + 2 by dsimp only at j2; omega) with rfl | rfl
              · rw [s1]; decide
              · rw [s2]; decide
            · dsimp only at hl
              rw [aQ_in hl] at d2
              show stN f (a + 3) = -1
              rw [s3, s2, q_5 _ hq2, if_neg d2]
            · show stN f (a + 2) < 8
              rw [s2]; decide
        · rw [if_pos ((q_in7 _ l1).mpr d1)]
          refine Or.inr ⟨rfl, by dsimp only; omega, fun j j1 j2 => ?_, fun hl => ?_, ?_⟩
          · rw [show j = a + 1 by dsimp only at j2; omega, s1]; decide
          · dsimp only at hl
            rw [aQ_in hl] at d1
            show stN f (a + 2) = -1
            rw [s2, s1, q_4 _ hq1, if_neg d1]
          · show stN f (a + 1) < 8
            rw [s1]; decide
      · rw [if_neg (show ¬ nI (aQ Q L a) = 98 from fun q => c98 ((nI_eq (b := 98) (by omega) (by omega)).mp q))]
        refine Or.inr ⟨rfl, ha, fun j j1 j2 => absurd j1 (by dsimp only at j2; omega), fun hl => ?_, by rw [h0]; decide⟩
        dsimp only at hl
        rw [aQ_in hl] at c36 c108 c98
        show stN f (a + 1) = -1
        rw [s1, if_neg c36, if_neg c98, if_neg c108]
/-- where the text is wrong: both find it -/
theorem fe_err {f : Nat → Int32} {Q : Nat → Nat} (h : chr f Q) {L : Nat} (hL : L ≤ 60) : ∀ (k a : Nat), a ≤ L → L + 1 ≤ k + a → stN f a = 0 → (feN f L k a = -1 ∧ errAt f (L - a) a = L ∧ 8 ≤ stN f L) ∨ (∃ p, p ≤ L ∧ feN f L k a = nI p ∧ errAt f (L - a) a = p ∧ stN f L < 8)
  | 0, a, ha, hk, _ => absurd hk (by omega)
  | k + 1, a, ha, hk, h0 => by
    have es : feN f L (k + 1) a = if (rpS f L a).1 = true then (if (rpS f L a).2 = L then -1 else if f (rpS f L a).2 = 59 then feN f L k ((rpS f L a).2 + 1) else nI (rpS f L a).2) else nI (rpS f L a).2 := rfl
    rw [es]
    rcases part_rd h ha h0 with ⟨e, g1, g2, g3, g4, g5, g6⟩ | ⟨e, b1, b2, b3, b4⟩
    · rw [if_pos e]
      have e2 := errAt_2 (f := f) (Nat.le_of_lt g1) g2 g3
      by_cases c : (rpS f L a).2 = L
      · rw [if_pos c]
        rw [c] at e2 g4
        rw [Nat.sub_self] at e2
        exact Or.inl ⟨rfl, e2, g4⟩
      · rw [if_neg c]
        obtain ⟨g7, g8⟩ := g6 (by omega)
        by_cases c2 : f (rpS f L a).2 = 59
        · rw [if_pos c2]
          have ih := fe_err h hL k ((rpS f L a).2 + 1) (by omega) (by omega) (g7 c2)
          have e3 := errAt_2 (f := f) (a := a) (p := (rpS f L a).2 + 1) (L := L) (by omega) (by omega) (fun j j1 j2 => by
            by_cases w : j = (rpS f L a).2 + 1
            · rw [w, g7 c2]; decide
            · exact g3 j j1 (by omega))
          rw [e3]
          exact ih
        · rw [if_neg c2]
          have e4 := g8 c2
          refine Or.inr ⟨_, g2, rfl, errAt_1 (Nat.le_of_lt g1) (by omega) g3 e4, ?_⟩
          have := stN_n e4 (L - ((rpS f L a).2 + 1))
          rw [show (rpS f L a).2 + 1 + (L - ((rpS f L a).2 + 1)) = L by omega] at this
          rw [this]; decide
    · have ne : ¬ (rpS f L a).1 = true := by rw [e]; decide
      rw [if_neg ne]
      have hal : a ≤ (rpS f L a).2 := (rpS_b f ha).1
      refine Or.inr ⟨_, b1, rfl, ?_, ?_⟩
      · by_cases c : (rpS f L a).2 = L
        · have e2 := errAt_2 (f := f) hal b1 b2
          rw [c, Nat.sub_self] at e2
          rw [c]; exact e2
        · exact errAt_1 hal (by omega) b2 (b3 (by omega))
      · by_cases c : (rpS f L a).2 = L
        · rw [c] at b4; exact b4
        · have := stN_n (b3 (by omega)) (L - ((rpS f L a).2 + 1))
          rw [show (rpS f L a).2 + 1 + (L - ((rpS f L a).2 + 1)) = L by omega] at this
          rw [this]; decide
theorem fe_all {f : Nat → Int32} {Q : Nat → Nat} (h : chr f Q) {L : Nat} (hL : L ≤ 60) : nI (errAt f L 0) = (if 0 ≤ feN f L (L + 1) 0 then feN f L (L + 1) 0 else nI L) ∧ (stN f L < 8 ↔ 0 ≤ feN f L (L + 1) 0) := by
  rcases fe_err h hL (L + 1) 0 (by omega) (by omega) rfl with ⟨e1, e2, e3⟩ | ⟨p, p1, e1, e2, e3⟩
  · rw [Nat.sub_zero] at e2
    rw [e1, e2]
    exact ⟨rfl, fun q => absurd (Int32.lt_of_lt_of_le q e3) (Int32.lt_irrefl), fun q => absurd q (by decide)⟩
  · rw [Nat.sub_zero] at e2
    have hp : (0 : Int32) ≤ nI p := nI_pos' (by omega)
    rw [e1, e2, if_pos hp]
    exact ⟨rfl, fun _ => hp, fun _ => e3⟩
