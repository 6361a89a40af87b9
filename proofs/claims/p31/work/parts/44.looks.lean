/-! Looks, and what would be: both tell the same -/
theorem RB.o {B : Nat} {β : zB} {z : zZ} (h : RB B β z) {p : Nat} (hp : p < 7) : isOpenV β p = isOpenZ z p := RV_open h.1 hp (h.2.2.2.2.2.2.1 p hp).1
theorem tell_pk {B : Nat} {β : zB} {z : zZ} (h : RB B β z) {p w : Nat} (hp : p < 7) (hw : w < 5) : tellV β p w = pkN z p w := by
  unfold tellV pkN
  rcases (show w = 0 ∨ w = 1 ∨ w = 2 ∨ w = 3 ∨ w = 4 by omega) with rfl | rfl | rfl | rfl | rfl
  · exact h.1.k hp
  · exact h.1.y hp
  · exact h.o hp
  · exact h.1.c hp
  · exact h.1.g hp
theorem num_cn {B : Nat} {β : zB} {z : zZ} (h : RB B β z) {w k : Nat} (hw : w < 17) : β 0 w = cnN z k w := by
  unfold cnN
  by_cases c : w < 13
  · rw [if_pos c, Nat.add_comm]; exact h.1.n c
  · rw [if_neg c]
    rcases (show w = 13 ∨ w = 14 ∨ w = 15 ∨ w = 16 by omega) with rfl | rfl | rfl | rfl
    · exact h.1.x
    · exact h.1.s1
    · exact h.1.s2
    · rw [if_neg (by omega), if_neg (by omega), if_pos rfl, bpN_C]
      exact (RB_16 h).1
theorem mp_sm {B : Nat} {β : zB} {z : zZ} (h : RB B β z) (w : Nat → Int32) : ∀ p, p ≤ 7 → mpS β w p = smN z w p
  | 0, _ => rfl
  | p + 1, hp => by
    simp only [mpS, smN]
    rw [mp_sm h w p (by omega), h.o (by omega), h.1.y (by omega)]
    split
    · rw [Int32.add_zero]
    · rfl
theorem sm_nI {B : Nat} {z : zZ} (h : ZI B z) {w : Nat → Int32} {X : Nat → Nat} (hx : ∀ k, k < 7 → w k = nI (X k)) : ∀ p, p ≤ 7 → ∃ S, S ≤ 15 * sN X p ∧ smN z w p = nI S
  | 0, _ => ⟨0, Nat.zero_le _, rfl⟩
  | p + 1, hp => by
    obtain ⟨S, s1, s2⟩ := sm_nI h hx p (by omega)
    obtain ⟨-, q, q1, q2⟩ := h.2.2.2.2.1 p (by omega)
    have es : sN X (p + 1) = sN X p + X p := rfl
    simp only [smN]
    rw [s2, es]
    split
    · exact ⟨S, by omega, by rw [Int32.add_zero]⟩
    · refine ⟨S + X p * q, ?_, by rw [hx p (by omega), q2, zI_mul, zI_add]⟩
      have := Nat.mul_le_mul_left (X p) q1
      omega
theorem mp_ms {B : Nat} {β : zB} {z : zZ} (h : RB B β z) {c : Nat} (hc : c < 7) : mpV β (cv β c) = msV z (wv z c) ∧ 0 ≤ msV z (wv z c) := by
  obtain ⟨X, x1, x2, x3, x4⟩ := wv_tot z hc
  obtain ⟨S, s1, s2⟩ := sm_nI h.2.2 x1 7 (by omega)
  rw [mpV_ind (w2 := wv z c) (fun k hk => cv_wv h.1 hk)]
  unfold mpV msV
  rw [mp_sm h _ 7 (by omega), x2, s2, if_neg (nI_nle (by omega) (by omega)), show (1000 : Int32) = nI 1000 from rfl, zI_mul, nI_div (by omega) (by omega)]
  refine ⟨rfl, nI_pos' ?_⟩
  have := Nat.div_le_self (S * 1000) (sN X 7)
  omega
theorem bc_bc {B : Nat} {β : zB} {z : zZ} (h : RB B β z) : ∀ c, c < 7 → bcC β (c + 1) = bcN z (c + 1)
  | 0, hc => by
    obtain ⟨m1, m2⟩ := mp_ms h hc
    have hn : ¬ msV z (wv z 0) ≤ -1 := fun q => absurd (Int32.le_trans m2 q) (by decide)
    show (if mpV β (cv β 0) ≤ -1 then ((0 : Int32), (-1 : Int32)) else (nI 0, mpV β (cv β 0))) = (if msV z (wv z 0) ≤ -1 then ((-1 : Int32), (-1 : Int32)) else (nI 0, msV z (wv z 0)))
    rw [m1, if_neg hn, if_neg hn]
  | c + 1, hc => by
    obtain ⟨m1, m2⟩ := mp_ms h hc
    have ih := bc_bc h c (by omega)
    show (if mpV β (cv β (c + 1)) ≤ (bcC β (c + 1)).2 then bcC β (c + 1) else (nI (c + 1), mpV β (cv β (c + 1)))) = (if msV z (wv z (c + 1)) ≤ (bcN z (c + 1)).2 then bcN z (c + 1) else (nI (c + 1), msV z (wv z (c + 1))))
    rw [m1, ih]
theorem td_ld {B : Nat} {β τ : zB} {z : zZ} (h : RB B β z) {c w : Nat} (hc : c < 7) (hw : w < 4) : tdV (lchB (cpB τ β) c) β w = ldV z c w := by
  obtain ⟨h1, h2⟩ := RB_lch (RB_cp (α := τ) h) hc
  unfold tdV ldV
  have g0 := h1.1.n (i := 11) (by omega)
  have g2 := h1.1.n (i := 6) (by omega)
  have g3 := h1.1.n (i := 9) (by omega)
  rcases (show w = 0 ∨ w = 1 ∨ w = 2 ∨ w = 3 by omega) with rfl | rfl | rfl | rfl
  · rw [if_pos rfl, if_pos rfl]; exact g0
  · rw [if_neg (by omega), if_pos rfl, if_neg (by omega), if_pos rfl, h1.1.n (i := 3) (by omega), h.1.n (i := 3) (by omega)]
    show lchZ z c 4 - z 4 = _
    rw [lchZ_4 hc, Int32.add_comm, Int32.add_sub_cancel]
  · rw [if_neg (by omega), if_neg (by omega), if_pos rfl, if_neg (by omega), if_neg (by omega), if_pos rfl]; exact g2
  · rw [if_neg (by omega), if_neg (by omega), if_neg (by omega), if_neg (by omega), if_neg (by omega), if_neg (by omega)]; exact g3
theorem ltN_s (c k : Nat) (z : zZ) (q : Nat) : ltN c (k + 1) (z, q) = if z 10 = 0 then ltN c k (lchZ z c, q + 1) else (z, q) := rfl
theorem tuN_s (c k : Nat) (τ : zB) (m : Nat) : tuN c (k + 1) τ m = if 0 < lchB τ c 0 9 then nI m else tuN c k (lchB τ c) (m + 1) := rfl
theorem held_iff {B : Nat} {β : zB} {z : zZ} (h : RB B β z) : (0 < β 0 9) ↔ ¬ z 10 = 0 := by
  rw [h.1.n (i := 9) (by omega)]
  show 0 < z 10 ↔ _
  constructor
  · intro q e; rw [e] at q; exact absurd q (by decide)
  · intro q
    rcases Int32.le_iff_lt_or_eq.mp h.2.2.2.2.1 with w | w
    · exact w
    · exact absurd w.symm q
theorem tu_lt1 {c : Nat} (hc : c < 7) : ∀ (k m : Nat) {B : Nat} {τ : zB} {z : zZ}, 1 ≤ m → m + k = 201 → RB B τ z → z 10 = 0 → tuN c k τ m = if 200 < (ltN c (k + 1) (z, m - 1)).2 then -1 else nI (ltN c (k + 1) (z, m - 1)).2
  | 0, m, B, τ, z, hm, hk, h, h0 => by
    have e : ltN c 1 (z, m - 1) = (lchZ z c, m - 1 + 1) := by
      rw [ltN_s c 0, if_pos h0]; rfl
    show (-1 : Int32) = _
    rw [e, if_pos (by omega)]
  | k + 1, m, B, τ, z, hm, hk, h, h0 => by
    obtain ⟨h1, h2⟩ := RB_lch h hc
    have e : ltN c (k + 2) (z, m - 1) = ltN c (k + 1) (lchZ z c, m) := by
      rw [ltN_s c (k + 1), if_pos h0, show m - 1 + 1 = m by omega]
    rw [e, tuN_s]
    by_cases c1 : 0 < lchB τ c 0 9
    · have c2 := (held_iff h1).mp c1
      have e2 : ltN c (k + 1) (lchZ z c, m) = (lchZ z c, m) := by
        rw [ltN_s c k, if_neg c2]
      rw [if_pos c1, e2, if_neg (by omega)]
    · have c2 : lchZ z c 10 = 0 := Decidable.not_not.mp (fun q => c1 ((held_iff h1).mpr q))
      rw [if_neg c1, tu_lt1 hc k (m + 1) (by omega) (by omega) h1 c2, show m + 1 - 1 = m by omega]
theorem tu_lt {B : Nat} {β τ : zB} {z : zZ} (h : RB B β z) {c : Nat} (hc : c < 7) : tuV β τ c = ltV z c := by
  unfold tuV ltV
  by_cases c1 : 0 < β 0 9
  · have c2 := (held_iff h).mp c1
    have e2 : ltN c 201 (z, 0) = (z, 0) := by
      rw [ltN_s c 200, if_neg c2]
    rw [if_pos c1, e2, if_neg (by omega)]
    rfl
  · have c2 : z 10 = 0 := Decidable.not_not.mp (fun q => c1 ((held_iff h).mpr q))
    rw [if_neg c1]
    exact tu_lt1 hc 200 1 (by omega) (by omega) (RB_cp h) c2
/-! the share -/
theorem sh_cases {B : Nat} {z : zZ} (h : ZI B z) (hB : B < 2 ^ 27) : (shV z = 0 ∨ ∃ E T, 990 ≤ E ∧ E ≤ 1056 ∧ T < 4503599627370496 ∧ shV z = nrm E T) ∧ (¬ z 3 = 0 → vf_n64 (FP.ddiv (FP.i2d (z 4)) (FP.i2d (z 3)))) := by
  obtain ⟨h1, h2, h3, h4, h5, q, r, e1, e2, b1, b2⟩ := h
  unfold shV
  rw [e1, e2]
  by_cases c : q = 0
  · subst c
    exact ⟨Or.inl (if_pos rfl), fun n => absurd rfl n⟩
  · have hne : ¬ nI q = 0 := nI_ne0 (by omega) (by omega)
    rw [if_neg hne]
    by_cases c2 : r = 0
    · subst c2
      rw [fdiv0 c (by omega)]
      exact ⟨Or.inl rfl, fun _ => n64_lt (Nat.zero_le _)⟩
    · obtain ⟨E, T, k1, k2, k3, k4⟩ := fdiv c2 (by omega) c (by omega)
      rw [k4]
      exact ⟨Or.inr ⟨E, T, k1, k2, k3, rfl⟩, fun _ => n64_nrm (by omega) k3⟩
theorem pb_sh {B : Nat} {β : zB} {z : zZ} (h : RB B β z) (hB : B < 2 ^ 27) : pbV β = shV z ∧ (β 0 2 ≤ 0 ↔ z 3 = 0) := by
  obtain ⟨h1, h2, h3, h4, h5, q, r, e1, e2, b1, b2⟩ := h.2.2
  have n2 : β 0 2 = z 3 := h.1.n (i := 2) (by omega)
  have n3 : β 0 3 = z 4 := h.1.n (i := 3) (by omega)
  have hi : β 0 2 ≤ 0 ↔ z 3 = 0 := by
    rw [n2, e1]
    by_cases c : q = 0
    · subst c; exact ⟨fun _ => rfl, fun _ => by decide⟩
    · exact ⟨fun w => absurd w (nI_nle (by omega) (by omega)), fun w => absurd w (nI_ne0 (by omega) (by omega))⟩
  refine ⟨?_, hi⟩
  unfold pbV shV
  by_cases c : z 3 = 0
  · rw [if_pos c, if_pos (hi.mpr c)]
  · rw [if_neg c, if_neg (fun w => c (hi.mp w)), n2, n3]
theorem sh_cmp {B : Nat} {z : zZ} (h : ZI B z) (hB : B < 2 ^ 27) : FP.dcmp (shV z) (shV z) = some .eq := by
  rcases (sh_cases h hB).1 with e | ⟨E, T, k1, k2, k3, e⟩ <;> rw [e]
  · exact fcmp_00
  · exact fcmp_refl (by omega) (by omega) k3
/-! the digest -/
theorem hsN_ext {f g : Nat → Int32} {x : Int64} : ∀ k, (∀ i, i < k → f i = g i) → hsN f k x = hsN g k x
  | 0, _ => rfl
  | k + 1, h => by
    simp only [hsN]
    rw [hsN_ext k (fun i hi => h i (by omega)), h k (by omega)]
theorem hpN_hs {f : Nat → Int32} {x : Int64} : ∀ k, (∀ i, i < k → f i = 0 ∨ f i = 1 ∨ f i = -1) → hpN f k x = hsN (fun i => f i + 1) k x
  | 0, _ => rfl
  | k + 1, h => by
    simp only [hsN, hpN]
    rw [hpN_hs k (fun i hi => h i (by omega)), Int64.add_assoc]
    rcases h k (by omega) with e | e | e <;> rw [e] <;> rfl
theorem hsP_dg {B : Nat} {β : zB} {z : zZ} (h : RB B β z) {x : Int64} : ∀ p, p ≤ 7 → hsP β p x = dgP z p x
  | 0, _ => rfl
  | p + 1, hp => by
    simp only [hsP, dgP]
    rw [hsP_dg h p (by omega)]
    exact hsN_ext 5 (fun w hw => tell_pk h (by omega) hw)
theorem hcW_dg {B : Nat} {β : zB} {z : zZ} (h : RB B β z) {c : Nat} (hc : c < 7) {x : Int64} : ∀ p, p ≤ 7 → hcW β c p x = dgW (wv z c) p x
  | 0, _ => rfl
  | p + 1, hp => by
    simp only [hcW, dgW]
    rw [hcW_dg h hc p (by omega), cv_wv h.1 (by omega), gv_wv h.1 hc (by omega)]
theorem hcN_dg {B : Nat} {β : zB} {z : zZ} (h : RB B β z) {x : Int64} : ∀ c, c ≤ 7 → hcN β (fun c w => ldV z c w) (fun c => ltV z c) c x = dgC z c x
  | 0, _ => rfl
  | c + 1, hc => by
    show hcV β _ _ c (hcN β _ _ c x) = 31 * hsN (fun w => ldV z c w) 4 (dgW (wv z c) 7 (dgC z c x)) + Int32.toInt64 (ltV z c)
    rw [hcN_dg h c (by omega)]
    unfold hcV
    rw [hcW_dg h (by omega) 7 (by omega)]
theorem dg_dg {B : Nat} {β : zB} {z : zZ} (h : RB B β z) (hB : B < 2 ^ 27) (f : Nat → Int32) (L k : Nat) : dgT β (bpC z 56) (nI k) f L (fun c w => ldV z c w) (fun c => ltV z c) = dgV z k f L := by
  have hm := RB_16 h
  unfold dgT dgV dgX dgD
  rw [hcN_dg h 7 (by omega), bc_bc h 6 (by omega), (pb_sh h hB).1]
  have e0 : (31 * hsN (β 0) 17 3677 + Int32.toInt64 (nI k) : Int64) = hsN (fun i => cnN z k i) 18 3677 := by
    show _ = 31 * hsN (fun i => cnN z k i) 17 3677 + Int32.toInt64 (cnN z k 17)
    rw [hsN_ext 17 (fun i hi => num_cn h (k := k) hi)]
    rfl
  have e1 : hbV β (bpC z 56) (31 * hsN (β 0) 17 3677 + Int32.toInt64 (nI k)) = hsN (fun i => z (17 + i)) 3 (dgP z 7 (dgB z k)) := by
    unfold hbV
    rw [e0, hsP_dg h 7 (by omega), hsN_ext 3 (fun i hi => h.1.w hi), hsN_ext 8 (fun i hi => h.1.t hi)]
    unfold dgB dgA
    rw [hpN_hs 56 (fun i hi => h.2.2.p i hi)]
    rw [hsN_ext (f := fun i => β 1 i + 1) (g := fun i => z (20 + i) + 1) 56 (fun i hi => by rw [h.1.p hi])]
    rw [hsN_ext (f := β 2) (g := fun i => baN z (nI i) 56) (bpC z 56) (fun i hi => by rw [RB_ba h (by omega) (by omega), if_pos hi])]
  rw [e1]

