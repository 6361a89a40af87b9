/-! The operations, 2 -/
theorem OPd_g {l : Launch} {D : va_G} {base C a n u v dd d2 mc ms : Nat} {h : zH} {β τ : zB} {rf : Nat → Option Nat} {φ : Nat → Int32} {c π : zB} {sn : Option Nat} {ψ ψ2 : Nat → Int32} {μ : zB} {y : Nat → Int64} {yX yM : MethodName} {wX wM : Cond} {r : Value} {S : zH → Nat → Prop} {P : zB → Prop} (hm : zobjAt (5, fsM (a + 31) ψ) 7 lnM μ (a + 31) h) (hy : h (a + 39) = lcell y) (q1 : dd ≤ 13) (q2 : mc ≤ 11) (q3 : ms ≤ 235) (q4 : d2 ≤ 14)
    (hC : zCt l D base dd yX wX [.ref a] (zTo h a β τ (nI u) (nI v) rf φ c π sn) n mc ms (zRT (some r) S))
    (hM : ∀ (g : zH) (n1 : Nat), ∃ S2, zCt l D base d2 yM wM [.ref (a + 31)] (setM g (a + 31) ψ μ) n1 0 0 (zRT (some r) S2) ∧ ∀ H2 n2, S2 H2 n2 → ∃ μ2, H2 = setM g (a + 31) ψ2 μ2 ∧ n2 = n1 ∧ P μ2)
    (hS : ∀ H1 n1, n ≤ n1 → S H1 n1 → ∃ (h2 : zH) (β2 τ2 : zB) (u2 v2 : Nat) (rf2 : Nat → Option Nat) (φ2 : Nat → Int32) (c2 π2 : zB) (sn2 : Option Nat) (ρ2 : Nat → zB) (κ2 : zB) (L2 : Nat), H1 = zTo h2 a β2 τ2 (nI u2) (nI v2) rf2 φ2 c2 π2 sn2 ∧ (∀ q, q < a + 40 → h2 q = h q) ∧ zExt a n1 h2 rf2 sn2 ρ2 κ2 ∧ ∀ μ2, P μ2 → RR C β2 u2 v2 rf2 φ2 c2 sn2 ρ2 κ2 ψ2 μ2 L2) :
    OPd l D base C a n (zTo h a β τ (nI u) (nI v) rf φ c π sn) r yX wX yM wM := by
  refine ⟨dd, mc, ms, S, q1, q2, q3, hC, fun H1 n1 hn hs => ?_⟩
  obtain ⟨h2, β2, τ2, u2, v2, rf2, φ2, c2, π2, sn2, ρ2, κ2, L2, rfl, k2, k3, k4⟩ := hS _ _ hn hs
  have hm2 : zobjAt (5, fsM (a + 31) ψ) 7 lnM μ (a + 31) h2 := hm.kept (fun q w1 w2 => k2 q (by omega))
  have hm3 : zobjAt (5, fsM (a + 31) ψ) 7 lnM μ (a + 31) (zTo h2 a β2 τ2 (nI u2) (nI v2) rf2 φ2 c2 π2 sn2) := To_xa hm2 (by omega)
  have e9 : setM (zTo h2 a β2 τ2 (nI u2) (nI v2) rf2 φ2 c2 π2 sn2) (a + 31) ψ μ = zTo h2 a β2 τ2 (nI u2) (nI v2) rf2 φ2 c2 π2 sn2 := hm3.set
  obtain ⟨S2, hM1, hM2⟩ := hM (zTo h2 a β2 τ2 (nI u2) (nI v2) rf2 φ2 c2 π2 sn2) n1
  rw [e9] at hM1
  refine ⟨⟨_, hm3.1⟩, d2, S2, q4, hM1, fun H2 n2 hn2 hs2 => ?_⟩
  obtain ⟨μ2, rfl, rfl, hp⟩ := hM2 _ _ hs2
  exact ST_fin (L := L2) k3 ((k2 _ (by omega)).trans hy) (k4 μ2 hp)
theorem op_append {l : Launch} {D : va_G} {base : Nat} (G : l.stackTraces = false) {B a n u v L : Nat} {h : zH} {β τ : zB} {rf : Nat → Option Nat} {φ : Nat → Int32} {c π : zB} {sn : Option Nat} {ρ : Nat → zB} {κ : zB} {ψ : Nat → Int32} {μ : zB} {y : Nat → Int64} (hB : B + 2000 < 2 ^ 27) (hm : zobjAt (5, fsM (a + 31) ψ) 7 lnM μ (a + 31) h) (hy : h (a + 39) = lcell y) (hx : zExt a n h rf sn ρ κ) (hr : RR B β u v rf φ c sn ρ κ ψ μ L) {p0 : Int32} : OPw l D base (B + 2000) a n (zTo h a β τ (nI u) (nI v) rf φ c π sn) yL_append w_L_append [.ref a, .int p0, .ref (a + 39)] yX5_append w_X5_append [.ref (a + 31), .int p0] := by
  have hu := hr.1
  have hv := hr.2.1
  have hs := hr.2.2.1
  have hz := hr.2.2.2.1
  obtain ⟨h1, h2, h3, h4, h5, h6, h7, h8, h9, h10, Q, hQ⟩ := id hr
  by_cases f0 : inV p0 33 126 = 0
  · skip
    exact OPw_x (by decide) hm hy hx hr (by omega) (by omega) (WL_append_x1 (by omega) (by omega) (by omega) To_o (c_X4_append_x1 G f0)) (fun g n1 => c_X5_append_x1 G f0)
  by_cases f1 : L = 60
  · skip
    exact OPw_x (by decide) hm hy hx hr (by omega) (by omega) (WL_append_x2 (by omega) (by omega) (by omega) To_o (c_X4_append_x2 G h7 h9 (by omega) f0)) (fun g n1 => c_X5_append_x2 G h8 h9 f0 f1)
  obtain ⟨q, hq1, hq2, e⟩ := inV_in (lo := 33) (hi := 126) (by decide) (by decide) f0
  have hC := c_X4_append G (D := D) (base := base) (h := h) (n := n) (a := a) (β := β) (τ := τ) (rf := rf) (φ := φ) (c := c) (π := π) (sn := sn) (o := nI u) (s := nI v) h7 h9 (show L < 60 by omega) f0
  refine OPw_g (ψ2 := va_up (va_up ψ 0 0) 3 (nI (L + 1))) (μ2 := sa μ 4 (va_up (μ 4) L p0)) hm (by omega) (WL_append_ok (S := fun b m => b = zTo h a β τ (nI u) (nI v) rf (va_up φ 0 (nI (L + 1))) (up2 c 0 L p0) π sn ∧ m = n) (by omega) (by omega) (by omega) To_o hC (fun H1 n1 q => (by rw [q.1]; exact ⟨y, (To_out (by omega)).trans hy⟩))) (fun g n1 => c_X5_append G h8 h9 f0 f1) (by simp (disch := omega) only [va_ne, vat]) (fun H1 n1 hn q9 => ?_)
  refine ⟨h, β, τ, u, v, rf, va_up φ 0 (nI (L + 1)), up2 c 0 L p0, π, sn, ρ, κ, L + 1, q9.1, fun _ _ => rfl, by rw [q9.2]; exact hx, ?_⟩
  refine ⟨h1, h2, by simp (disch := omega) only [va_ne]; exact h3, by rw [sane (by omega)]; exact h4.mono (by omega), by rw [sane (by omega)]; exact h5.mono (by omega), ?_, vat, vat, by omega, ?_, va_up Q L q, fun i => ?_⟩
  · rw [sane (by omega)]
    simp (disch := omega) only [va_ne]
    exact sn_mono h6 (by omega)
  · rw [u2at, saat, h10]
  · rw [saat]
    by_cases w : i = L
    · subst w
      rw [vat, va_up_self]
      exact ⟨e, by omega⟩
    · rw [va_ne w, va_up_ne _ _ w]
      exact hQ i

theorem op_undo {l : Launch} {D : va_G} {base : Nat} (G : l.stackTraces = false) {B a n u v L : Nat} {h : zH} {β τ : zB} {rf : Nat → Option Nat} {φ : Nat → Int32} {c π : zB} {sn : Option Nat} {ρ : Nat → zB} {κ : zB} {ψ : Nat → Int32} {μ : zB} {y : Nat → Int64} (hB : B + 2000 < 2 ^ 27) (hm : zobjAt (5, fsM (a + 31) ψ) 7 lnM μ (a + 31) h) (hy : h (a + 39) = lcell y) (hx : zExt a n h rf sn ρ κ) (hr : RR B β u v rf φ c sn ρ κ ψ μ L) : OPw l D base (B + 2000) a n (zTo h a β τ (nI u) (nI v) rf φ c π sn) yL_undo w_L_undo [.ref a, .ref (a + 39)] yX5_undo w_X5_undo [.ref (a + 31)] := by
  have hu := hr.1
  have hv := hr.2.1
  have hs := hr.2.2.1
  have hz := hr.2.2.2.1
  obtain ⟨h1, h2, h3, h4, h5, h6, h7, h8, h9, h10, h11⟩ := id hr
  by_cases f0 : v = 0
  · skip
    exact OPw_x (by decide) hm hy hx hr (by omega) (by omega) (WL_undo_x1 (by omega) (by omega) (by omega) To_o (c_X4_undo_x G hu hv f0)) (fun g n1 => c_X5_undo_x G (by rw [hs, f0]; rfl))
  obtain ⟨k, rfl⟩ : ∃ k, v = k + 1 := ⟨v - 1, by omega⟩
  obtain ⟨r1, r2⟩ := h5 k (by omega)
  obtain ⟨q, hq⟩ : ∃ q, rf ((u + k) % 6) = some q := by
    cases e : rf ((u + k) % 6) with
    | none => exact absurd e r1
    | some q => exact ⟨q, rfl⟩
  have hmod := Nat.mod_lt (u + k) (show 0 < 6 by decide)
  obtain ⟨x1, x2, x3⟩ := hx.2.1 _ q hmod hq
  have hC := c_X4_undo G (D := D) (base := base) (h := h) (n := n) (a := a) (β := β) (τ := τ) (rf := rf) (φ := φ) (c := c) (π := π) (sn := sn) hu hv f0 (q := q) (x := ρ ((u + k) % 6)) (by rw [show u + (k + 1) - 1 = u + k by omega]; exact hq) (by omega) x3
  rw [show k + 1 - 1 = k by omega] at hC
  refine OPw_g (ψ2 := va_up (va_up ψ 0 0) 1 (nI k)) (μ2 := sa μ 0 (cpF (μ 0) (μ 2) (175 * k) 175)) hm (by omega) (WL_undo_ok (S := fun b m => b = zTo h a (cpB β (ρ ((u + k) % 6))) τ (nI u) (nI k) rf φ c π sn ∧ m = n) (by omega) (by omega) (by omega) To_o hC (fun H1 n1 q => (by rw [q.1]; exact ⟨y, (To_out (by omega)).trans hy⟩))) (fun g n1 => c_X5_undo G hs (by omega)) (by simp (disch := omega) only [va_ne, vat]) (fun H1 n1 hn q9 => ?_)
  refine ⟨h, cpB β (ρ ((u + k) % 6)), τ, u, k, rf, φ, c, π, sn, ρ, κ, L, q9.1, fun _ _ => rfl, by rw [q9.2]; exact hx, ?_⟩
  refine ⟨h1, by omega, vat, ?_, ?_, ?_, h7, by simp (disch := omega) only [va_ne]; exact h8, h9, by rw [sane (by omega)]; exact h10, by rw [sane (by omega)]; exact h11⟩
  · rw [saat]
    refine (RB_z (RB_cp r2) (fun i hi => ?_)).mono (by omega)
    unfold cpF
    rw [if_pos hi]
  · rw [sane (by omega)]
    exact fun i hi => (h5.mono (by omega)) i (by omega)
  · rw [sane (by omega)]
    simp (disch := omega) only [va_ne]
    exact sn_mono h6 (by omega)

theorem op_restore {l : Launch} {D : va_G} {base : Nat} (G : l.stackTraces = false) {B a n u v L : Nat} {h : zH} {β τ : zB} {rf : Nat → Option Nat} {φ : Nat → Int32} {c π : zB} {sn : Option Nat} {ρ : Nat → zB} {κ : zB} {ψ : Nat → Int32} {μ : zB} {y : Nat → Int64} (hB : B + 2000 < 2 ^ 27) (hm : zobjAt (5, fsM (a + 31) ψ) 7 lnM μ (a + 31) h) (hy : h (a + 39) = lcell y) (hx : zExt a n h rf sn ρ κ) (hr : RR B β u v rf φ c sn ρ κ ψ μ L) : OPw l D base (B + 2000) a n (zTo h a β τ (nI u) (nI v) rf φ c π sn) yL_restore w_L_restore [.ref a, .ref (a + 39)] yX5_restore w_X5_restore [.ref (a + 31)] := by
  have hu := hr.1
  have hv := hr.2.1
  have hs := hr.2.2.1
  have hz := hr.2.2.2.1
  rcases hr.2.2.2.2.2.1 with ⟨e, e2⟩ | ⟨e, e2, e3⟩
  · subst e
    exact OPw_x (by decide) hm hy hx hr (by omega) (by omega) (WL_restore_x1 (by omega) (by omega) (by omega) To_o (c_X4_restore_x G (sn := none))) (fun g n1 => c_X5_restore_x G e2)
  · obtain ⟨q, rfl⟩ : ∃ q, sn = some q := by
      cases sn with
      | none => exact absurd rfl e
      | some q => exact ⟨q, rfl⟩
    have hC := c_X4_restore G (D := D) (base := base) (h := h) (n := n) (a := a) (β := β) (τ := τ) (rf := rf) (φ := φ) (c := c) (π := π) (sn := none) hu hv (q := q) hx
    rw [show cpB β κ 0 0 = cpz (μ 0) (μ 3) 175 1 by rw [cpB_at (by decide) (by decide)]; exact e3.1.n (i := 0) (by omega)] at hC
    exact OPw_s (L2 := L) hm hr (by omega) (by omega) (WL_restore_ok (by omega) (by omega) (by omega) To_o hC (fun H1 n1 q => saveS_y hy q)) (fun g n1 => c_X5_restore G hs hv e2) (by simp (disch := omega) only [va_ne, vat]) (fun _ _ q => q) (by simp (disch := omega) only [va_ne, vat]) (by simp (disch := omega) only [va_ne, vat]) (by first | rfl | simp (disch := omega) only [sane, saat]) (by first | rfl | simp (disch := omega) only [sane, saat]) (by first | rfl | simp (disch := omega) only [sane, saat]) (by rw [saat]; exact ((RB_z (RB_cp (α := β) e3) (fun k hk => if_pos hk)).mono (by omega))) (hr.2.2.2.2.2.2.1) (by simp (disch := omega) only [va_ne]; exact hr.2.2.2.2.2.2.2.1) (hr.2.2.2.2.2.2.2.2.1)

theorem op_work {l : Launch} {D : va_G} {base : Nat} (G : l.stackTraces = false) {B a n u v L : Nat} {h : zH} {β τ : zB} {rf : Nat → Option Nat} {φ : Nat → Int32} {c π : zB} {sn : Option Nat} {ρ : Nat → zB} {κ : zB} {ψ : Nat → Int32} {μ : zB} {y : Nat → Int64} (hB : B + 2000 < 2 ^ 27) (hm : zobjAt (5, fsM (a + 31) ψ) 7 lnM μ (a + 31) h) (hy : h (a + 39) = lcell y) (hx : zExt a n h rf sn ρ κ) (hr : RR B β u v rf φ c sn ρ κ ψ μ L) : OPw l D base (B + 2000) a n (zTo h a β τ (nI u) (nI v) rf φ c π sn) yL_work w_L_work [.ref a, .ref (a + 39)] yX5_work w_X5_work [.ref (a + 31)] := by
  have hu := hr.1
  have hv := hr.2.1
  have hs := hr.2.2.1
  have hz := hr.2.2.2.1
  obtain ⟨h1, h2, h3, h4, h5, h6, h7, h8, h9, h10, Q, hQ⟩ := id hr
  have hfe := fe_all hQ h9
  by_cases f0 : stN (c 0) L < 8
  · have g0 : 0 ≤ feN (μ 4) L (L + 1) 0 := hfe.2.mp (by rw [← h10]; exact f0)
    exact OPw_xg (by decide) hm hy hx hr (by omega) (by omega) (WL_work_x1 (by omega) (by omega) (by omega) To_o (c_X4_work_x1 G h7 h9 f0)) (fun g n1 => c_X5_work_x G h8 h9 g0) vat (by rw [va_ne (by omega), feP_3 _ _ (by omega)]) (by rw [va_ne (by omega), feP_3 _ _ (by omega)]) (by rw [va_ne (by omega), feP_3 _ _ (by omega)])
  have g0 : ¬ 0 ≤ feN (μ 4) L (L + 1) 0 := fun w => f0 (by rw [h10]; exact hfe.2.mpr w)
  have gm : feN (μ 4) L (L + 1) 0 = -1 := by
    rcases fe_err hQ h9 (L + 1) 0 (by omega) (by omega) rfl with ⟨e1, -, -⟩ | ⟨p, p1, e1, -, -⟩
    · exact e1
    · exact absurd (by rw [e1]; exact nI_pos' (by omega)) g0
  obtain ⟨wk1, wk2⟩ := works hQ h9 (L + 1) 0 (by omega) (by omega) rfl gm
  obtain ⟨w1, w2⟩ := wk2 B β (μ 0) 0 (wkF (μ 4) L v ψ) hz
  rw [show L + 1 - 0 = L + 1 by omega] at wk1 w1 w2
  have hk : ∀ i, i < 4 → (wkQ (μ 4) L v (μ 0) ψ).2.2 i = wkF (μ 4) L v ψ i := (wkN_x h9 (L + 1) 0 (μ 0, 0, wkF (μ 4) L v ψ) (fun _ => g0) hz.2.2.x hz.2.2.p).2.2
  have hC := c_X4_work G (D := D) (base := base) (h := h) (n := n) (a := a) (β := β) (τ := τ) (rf := rf) (φ := φ) (c := c) (π := π) (sn := sn) hu hv hx h7 h9 (J := fun γ => ∃ B z, RB B γ z) (fun γ q => by obtain ⟨B, z, q⟩ := q; exact RB_BI q) f0 ⟨B, _, hz⟩ (by rw [h10]; exact wk1) (fun γ p u q hd => pd_keep q hd)
  rw [show (cwN (c 0) L (L + 1) 0 0 (β, 0)).2 = (wkQ (μ 4) L v (μ 0) ψ).2.1 by rw [h10]; exact w2] at hC
  exact OPw_s (L2 := 0) hm hr (by omega) (by omega) (WL_work_ok (by omega) (by omega) (by omega) To_o hC (fun H1 n1 q => saveS_y hy q)) (fun g n1 => c_X5_work G h8 h9 hs hv hz.2.2.x hz.2.2.p g0) (by rw [va_ne (by omega), hk 0 (by omega)]; unfold wkF; simp (disch := omega) only [va_ne, vat]) (fun _ _ q => q) (by rw [va_ne (by omega), hk 1 (by omega)]; unfold wkF; simp (disch := omega) only [va_ne, vat]) (by rw [va_ne (by omega), hk 2 (by omega)]; unfold wkF; simp (disch := omega) only [va_ne]; exact feP_3 _ _ (by omega) _ _ _) (by first | rfl | simp (disch := omega) only [sane, saat]) (by first | rfl | simp (disch := omega) only [sane, saat]) (by first | rfl | simp (disch := omega) only [sane, saat]) (by rw [saat]; exact (by rw [h10]; exact w1.mono (by omega))) (vat) vat (Nat.zero_le _)

theorem op_clearBuffer {l : Launch} {D : va_G} {base : Nat} (G : l.stackTraces = false) {B a n u v L : Nat} {h : zH} {β τ : zB} {rf : Nat → Option Nat} {φ : Nat → Int32} {c π : zB} {sn : Option Nat} {ρ : Nat → zB} {κ : zB} {ψ : Nat → Int32} {μ : zB} {y : Nat → Int64} (hB : B + 2000 < 2 ^ 27) (hm : zobjAt (5, fsM (a + 31) ψ) 7 lnM μ (a + 31) h) (hy : h (a + 39) = lcell y) (hx : zExt a n h rf sn ρ κ) (hr : RR B β u v rf φ c sn ρ κ ψ μ L) : ∃ r : Int32, OPd l D base (B + 2000) a n (zTo h a β τ (nI u) (nI v) rf φ c π sn) (.int r) yX4_clearBuffer w_X4_clearBuffer yX5_clearBuffer w_X5_clearBuffer := by
  have hs := hr.2.2.1
  have hz := hr.2.2.2.1
  obtain ⟨h1, h2, h3, h4, h5, h6, h7, h8, h9, h10, Q, hQ⟩ := id hr
  have hC := c_X4_clearBuffer G (D := D) (base := base) (h := h) (n := n) (a := a) (β := β) (τ := τ) (rf := rf) (φ := φ) (c := c) (π := π) (sn := sn) (o := nI u) (s := nI v)
  rw [h7] at hC
  refine ⟨nI L, OPd_g (P := fun μ2 => μ2 = μ) (ψ2 := va_up (va_up ψ 0 0) 3 0) (S := fun b m => b = zTo h a β τ (nI u) (nI v) rf (va_up φ 0 0) c π sn ∧ m = n) hm hy (by omega) (by omega) (by omega) (d2 := 9) (by omega) hC (fun g n1 => ⟨(fun b m => b = setM g (a + 31) (va_up (va_up ψ 0 0) 3 0) μ ∧ m = n1), by have := c_X5_clearBuffer G (D := D) (base := base) (h := g) (n := n1) (b := a + 31) (μ := μ) (φ := ψ); rw [h8] at this; exact this, fun H2 n2 q => ⟨μ, q.1, q.2, rfl⟩⟩) (fun H1 n1 hn q9 => ⟨h, β, τ, u, v, rf, va_up φ 0 0, c, π, sn, ρ, κ, 0, q9.1, fun _ _ => rfl, by rw [q9.2]; exact hx, fun μ2 e => ?_⟩)⟩
  subst e
  exact ⟨h1, h2, by simp (disch := omega) only [va_ne]; exact h3, h4.mono (by omega), h5.mono (by omega), by simp (disch := omega) only [va_ne]; exact sn_mono h6 (by omega), vat, vat, Nat.zero_le _, h10, Q, hQ⟩

theorem op_firstError {l : Launch} {D : va_G} {base : Nat} (G : l.stackTraces = false) {B a n u v L : Nat} {h : zH} {β τ : zB} {rf : Nat → Option Nat} {φ : Nat → Int32} {c π : zB} {sn : Option Nat} {ρ : Nat → zB} {κ : zB} {ψ : Nat → Int32} {μ : zB} {y : Nat → Int64} (hB : B + 2000 < 2 ^ 27) (hm : zobjAt (5, fsM (a + 31) ψ) 7 lnM μ (a + 31) h) (hy : h (a + 39) = lcell y) (hx : zExt a n h rf sn ρ κ) (hr : RR B β u v rf φ c sn ρ κ ψ μ L) : ∃ r : Int32, OPd l D base (B + 2000) a n (zTo h a β τ (nI u) (nI v) rf φ c π sn) (.int r) yX4_firstError w_X4_firstError yX5_firstError w_X5_firstError := by
  have hs := hr.2.2.1
  have hz := hr.2.2.2.1
  obtain ⟨h1, h2, h3, h4, h5, h6, h7, h8, h9, h10, Q, hQ⟩ := id hr
  have hfe := fe_all hQ h9
  have hC := c_X4_firstError G (D := D) (base := base) (h := h) (n := n) (a := a) (β := β) (τ := τ) (rf := rf) (φ := φ) (c := c) (π := π) (sn := sn) (o := nI u) (s := nI v) h7 h9
  rw [h10, hfe.1] at hC
  refine ⟨_, OPd_g (P := fun μ2 => μ2 = μ) (ψ2 := feP (μ 4) L (L + 1) 0 (va_up ψ 0 0)) (S := fun b m => b = zTo h a β τ (nI u) (nI v) rf φ c π sn ∧ m = n) hm hy (by omega) (by omega) (by omega) (d2 := 5) (by omega) hC (fun g n1 => ⟨(fun b m => b = setM g (a + 31) (feP (μ 4) L (L + 1) 0 (va_up ψ 0 0)) μ ∧ m = n1), c_X5_firstError G h8 h9, fun H2 n2 q => ⟨μ, q.1, q.2, rfl⟩⟩) (fun H1 n1 hn q9 => ⟨h, β, τ, u, v, rf, φ, c, π, sn, ρ, κ, L, q9.1, fun _ _ => rfl, by rw [q9.2]; exact hx, fun μ2 e => ?_⟩)⟩
  subst e
  exact RR_look hr (by omega) (by rw [feP_3 _ _ (by omega), va_ne (by omega)]) (by rw [feP_3 _ _ (by omega), va_ne (by omega)]) (by rw [feP_3 _ _ (by omega), va_ne (by omega)]) rfl rfl rfl rfl

theorem op_keep {l : Launch} {D : va_G} {base : Nat} (G : l.stackTraces = false) {B a n u v L : Nat} {h : zH} {β τ : zB} {rf : Nat → Option Nat} {φ : Nat → Int32} {c π : zB} {sn : Option Nat} {ρ : Nat → zB} {κ : zB} {ψ : Nat → Int32} {μ : zB} {y : Nat → Int64} (hB : B + 2000 < 2 ^ 27) (hm : zobjAt (5, fsM (a + 31) ψ) 7 lnM μ (a + 31) h) (hy : h (a + 39) = lcell y) (hx : zExt a n h rf sn ρ κ) (hr : RR B β u v rf φ c sn ρ κ ψ μ L) : ∃ r : Int32, OPd l D base (B + 2000) a n (zTo h a β τ (nI u) (nI v) rf φ c π sn) (.int r) yX4_keep w_X4_keep yX5_keep w_X5_keep := by
  have hs := hr.2.2.1
  have hz := hr.2.2.2.1
  obtain ⟨h1, h2, h3, h4, h5, h6, h7, h8, h9, h10, Q, hQ⟩ := id hr
  have e0 : β 0 0 = μ 0 1 := hz.1.n (i := 0) (by omega)
  refine ⟨μ 0 1, ?_⟩
  have key : ∀ (h2 : zH) (q2 n1 : Nat) (α : zB), (∀ q, q < a + 40 → h2 q = h q) → zExt a n1 h2 rf (some q2) ρ (cpB α β) → ∃ (h3 : zH) (β2 τ2 : zB) (u2 v2 : Nat) (rf2 : Nat → Option Nat) (φ2 : Nat → Int32) (c2 π2 : zB) (sn2 : Option Nat) (ρ2 : Nat → zB) (κ2 : zB) (L2 : Nat), zTo h2 a β τ (nI u) (nI v) rf φ c π (some q2) = zTo h3 a β2 τ2 (nI u2) (nI v2) rf2 φ2 c2 π2 sn2 ∧ (∀ q, q < a + 40 → h3 q = h q) ∧ zExt a n1 h3 rf2 sn2 ρ2 κ2 ∧ ∀ μ2, μ2 = sa μ 3 (cpz (μ 3) (μ 0) 175) → RR (B + 2000) β2 u2 v2 rf2 φ2 c2 sn2 ρ2 κ2 (va_up (va_up ψ 0 0) 2 1) μ2 L2 := by
    intro h2 q2 n1 α k1 k2
    refine ⟨h2, β, τ, u, v, rf, φ, c, π, some q2, ρ, cpB α β, L, rfl, k1, k2, fun μ2 e => ?_⟩
    subst e
    refine ⟨h1, hr.2.1, by simp (disch := omega) only [va_ne]; exact h3, by rw [sane (by omega)]; exact h4.mono (by omega), by rw [sane (by omega)]; exact h5.mono (by omega), Or.inr ⟨(fun w => by cases w), by rw [vat]; decide, ?_⟩, h7, by simp (disch := omega) only [va_ne]; exact h8, h9, by rw [sane (by omega)]; exact h10, Q, by rw [sane (by omega)]; exact hQ⟩
    rw [saat]
    exact (RB_z (RB_cp hz) (fun k hk => if_pos hk)).mono (by omega)
  cases sn with
  | none =>
    have hC := c_X4_keep_x G (D := D) (base := base) (h := h) (n := n) (a := a) (β := β) (τ := τ) (o := nI u) (s := nI v) (rf := rf) (φ := φ) (c := c) (π := π) (sn := none) hx
    rw [e0] at hC
    refine OPd_g (P := fun μ2 => μ2 = sa μ 3 (cpz (μ 3) (μ 0) 175)) (ψ2 := va_up (va_up ψ 0 0) 2 1) hm hy (by omega) (by omega) (by omega) (d2 := 1) (by omega) hC (fun g n1 => ⟨(fun b m => b = setM g (a + 31) (va_up (va_up ψ 0 0) 2 1) (sa μ 3 (cpz (μ 3) (μ 0) 175)) ∧ m = n1), c_X5_keep G, fun H2 n2 q => ⟨_, q.1, q.2, rfl⟩⟩) (fun H1 n1 hn q9 => ?_)
    obtain ⟨h2, q2, rfl, k1, α, k2⟩ := q9
    exact key h2 q2 n1 α k1 k2
  | some q =>
    have hC := c_X4_keep_q G (D := D) (base := base) (h := h) (n := n) (a := a) (β := β) (τ := τ) (o := nI u) (s := nI v) (rf := rf) (φ := φ) (c := c) (π := π) (sn := none) hx
    rw [e0] at hC
    refine OPd_g (P := fun μ2 => μ2 = sa μ 3 (cpz (μ 3) (μ 0) 175)) (ψ2 := va_up (va_up ψ 0 0) 2 1) hm hy (by omega) (by omega) (by omega) (d2 := 1) (by omega) hC (fun g n1 => ⟨(fun b m => b = setM g (a + 31) (va_up (va_up ψ 0 0) 2 1) (sa μ 3 (cpz (μ 3) (μ 0) 175)) ∧ m = n1), c_X5_keep G, fun H2 n2 q => ⟨_, q.1, q.2, rfl⟩⟩) (fun H1 n1 hn q9 => ?_)
    obtain ⟨h2, q2, rfl, k1, α, k2⟩ := q9
    exact key h2 q2 n1 α k1 k2

theorem op_bestColumn {l : Launch} {D : va_G} {base : Nat} (G : l.stackTraces = false) {B a n u v L : Nat} {h : zH} {β τ : zB} {rf : Nat → Option Nat} {φ : Nat → Int32} {c π : zB} {sn : Option Nat} {ρ : Nat → zB} {κ : zB} {ψ : Nat → Int32} {μ : zB} {y : Nat → Int64} (hB : B + 2000 < 2 ^ 27) (hm : zobjAt (5, fsM (a + 31) ψ) 7 lnM μ (a + 31) h) (hy : h (a + 39) = lcell y) (hx : zExt a n h rf sn ρ κ) (hr : RR B β u v rf φ c sn ρ κ ψ μ L) : ∃ r : Int32, OPd l D base (B + 2000) a n (zTo h a β τ (nI u) (nI v) rf φ c π sn) (.int r) yX4_bestColumn w_X4_bestColumn yX5_bestColumn w_X5_bestColumn := by
  have hs := hr.2.2.1
  have hz := hr.2.2.2.1
  obtain ⟨h1, h2, h3, h4, h5, h6, h7, h8, h9, h10, Q, hQ⟩ := id hr
  have hC := c_X4_bestColumn G (D := D) (base := base) (h := h) (n := n) (a := a) (β := β) (τ := τ) (rf := rf) (φ := φ) (c := c) (π := π) (sn := sn) (o := nI u) (s := nI v)
  rw [bc_bc hz 6 (by omega)] at hC
  refine ⟨_, OPd_g (P := fun μ2 => ∃ x y, μ2 = sa (sa μ 5 x) 6 y) (ψ2 := va_up ψ 0 0) hm hy (by omega) (by omega) (by omega) (d2 := 9) (by omega) hC (fun g n1 => ⟨(fun b m => (∃ x y, b = setM g (a + 31) (va_up ψ 0 0) (sa (sa μ 5 x) 6 y)) ∧ m = n1), c_X5_bestColumn G (wv_all (μ 0)), fun H2 n2 q => ?_⟩) (fun H1 n1 hn q9 => ?_)⟩
  · obtain ⟨⟨x, y, e⟩, e2⟩ := q
    exact ⟨_, e, e2, x, y, rfl⟩
  · obtain ⟨π2, e, rfl⟩ := q9
    refine ⟨h, β, τ, u, v, rf, φ, c, π2, sn, ρ, κ, L, e, fun _ _ => rfl, hx, fun μ2 e2 => ?_⟩
    obtain ⟨x, y, rfl⟩ := e2
    exact RR_look hr (by omega) (va_ne (by omega)) (va_ne (by omega)) (va_ne (by omega)) (by first | rfl | simp (disch := omega) only [sane, saat]) (by first | rfl | simp (disch := omega) only [sane, saat]) (by first | rfl | simp (disch := omega) only [sane, saat]) (by first | rfl | simp (disch := omega) only [sane, saat])

theorem op_payback {l : Launch} {D : va_G} {base : Nat} (G : l.stackTraces = false) {B a n u v L : Nat} {h : zH} {β τ : zB} {rf : Nat → Option Nat} {φ : Nat → Int32} {c π : zB} {sn : Option Nat} {ρ : Nat → zB} {κ : zB} {ψ : Nat → Int32} {μ : zB} {y : Nat → Int64} (hB : B + 2000 < 2 ^ 27) (hm : zobjAt (5, fsM (a + 31) ψ) 7 lnM μ (a + 31) h) (hy : h (a + 39) = lcell y) (hx : zExt a n h rf sn ρ κ) (hr : RR B β u v rf φ c sn ρ κ ψ μ L) : ∃ r : UInt64, OPd l D base (B + 2000) a n (zTo h a β τ (nI u) (nI v) rf φ c π sn) (.double r) yX4_payback w_X4_payback yX5_payback w_X5_payback ∧ FP.dcmp r r = some .eq := by
  have hs := hr.2.2.1
  have hz := hr.2.2.2.1
  obtain ⟨h1, h2, h3, h4, h5, h6, h7, h8, h9, h10, Q, hQ⟩ := id hr
  have hp := pb_sh hz (by omega)
  have hsh := sh_cases hz.2.2 (by omega)
  have n2 : β 0 2 = μ 0 3 := hz.1.n (i := 2) (by omega)
  have n3 : β 0 3 = μ 0 4 := hz.1.n (i := 3) (by omega)
  have hC := c_X4_payback G (D := D) (base := base) (h := h) (n := n) (a := a) (β := β) (τ := τ) (rf := rf) (φ := φ) (c := c) (π := π) (sn := sn) (o := nI u) (s := nI v) (fun w => by rw [n2, n3]; exact hsh.2 (fun e => w (hp.2.mpr e)))
  rw [hp.1] at hC
  refine ⟨_, OPd_g (P := fun μ2 => μ2 = μ) (ψ2 := va_up ψ 0 0) (S := fun b m => b = zTo h a β τ (nI u) (nI v) rf φ c π sn ∧ m = n) hm hy (by omega) (by omega) (by omega) (d2 := 9) (by omega) hC (fun g n1 => ⟨(fun b m => b = setM g (a + 31) (va_up ψ 0 0) μ ∧ m = n1), c_X5_payback G hsh.2, fun H2 n2 q => ⟨μ, q.1, q.2, rfl⟩⟩) (fun H1 n1 hn q9 => ⟨h, β, τ, u, v, rf, φ, c, π, sn, ρ, κ, L, q9.1, fun _ _ => rfl, by rw [q9.2]; exact hx, fun μ2 e => ?_⟩), sh_cmp hz.2.2 (by omega)⟩
  subst e
  exact RR_look hr (by omega) (va_ne (by omega)) (va_ne (by omega)) (va_ne (by omega)) rfl rfl rfl rfl

theorem op_digest {l : Launch} {D : va_G} {base : Nat} (G : l.stackTraces = false) {B a n u v L : Nat} {h : zH} {β τ : zB} {rf : Nat → Option Nat} {φ : Nat → Int32} {c π : zB} {sn : Option Nat} {ρ : Nat → zB} {κ : zB} {ψ : Nat → Int32} {μ : zB} {y : Nat → Int64} (hB : B + 2000 < 2 ^ 27) (hm : zobjAt (5, fsM (a + 31) ψ) 7 lnM μ (a + 31) h) (hy : h (a + 39) = lcell y) (hx : zExt a n h rf sn ρ κ) (hr : RR B β u v rf φ c sn ρ κ ψ μ L) : ∃ r : Int64, OPd l D base (B + 2000) a n (zTo h a β τ (nI u) (nI v) rf φ c π sn) (.long r) yX4_digest w_X4_digest yX5_digest w_X5_digest := by
  have hs := hr.2.2.1
  have hz := hr.2.2.2.1
  obtain ⟨h1, h2, h3, h4, h5, h6, h7, h8, h9, h10, Q, hQ⟩ := id hr
  have hp := pb_sh hz (by omega)
  have hsh := sh_cases hz.2.2 (by omega)
  have n2 : β 0 2 = μ 0 3 := hz.1.n (i := 2) (by omega)
  have n3 : β 0 3 = μ 0 4 := hz.1.n (i := 3) (by omega)
  have h16 := RB_16 hz
  have hC := c_X4_digest G (D := D) (base := base) (h := h) (n := n) (a := a) (β := β) (τ := τ) (rf := rf) (φ := φ) (c := c) (π := π) (sn := sn) (o := nI u) (s := nI v) hz.pin (td := fun c w => ldV (μ 0) c w) (tu := fun c => ltV (μ 0) c) (fun τ c w hc hw => td_ld hz hc hw) (fun τ c hc => tu_lt hz hc) h16.1 h16.2.1 h7 h9 (fun w => by rw [n2, n3]; exact hsh.2 (fun e => w (hp.2.mpr e))) (fun H N => by rw [hp.1]; exact sh_bits G hz.2.2 (by omega) H N)
  rw [dg_dg hz (by omega), h10] at hC
  refine ⟨_, OPd_g (P := fun μ2 => ∃ w x y, μ2 = sa (sa (sa μ 1 w) 5 x) 6 y) (ψ2 := va_up ψ 0 0) hm hy (by omega) (by omega) (by omega) (d2 := 8) (by omega) hC (fun g n1 => ⟨(fun b m => (∃ w x y, b = setM g (a + 31) (va_up ψ 0 0) (sa (sa (sa μ 1 w) 5 x) 6 y)) ∧ m = n1), c_X5_digest G h8 h9 hs hz.2.2.x hz.2.2.p (wv_all (μ 0)) hsh.2 (by rw [sh_cmp hz.2.2 (by omega)]; rfl), fun H2 n2 q => ?_⟩) (fun H1 n1 hn q9 => ?_)⟩
  · obtain ⟨⟨w, x, y, e⟩, e2⟩ := q
    exact ⟨_, e, e2, w, x, y, rfl⟩
  · obtain ⟨τ2, π2, e, rfl⟩ := q9
    refine ⟨h, β, τ2, u, v, rf, φ, c, π2, sn, ρ, κ, L, e, fun _ _ => rfl, hx, fun μ2 e2 => ?_⟩
    obtain ⟨w, x, y, rfl⟩ := e2
    exact RR_look hr (by omega) (va_ne (by omega)) (va_ne (by omega)) (va_ne (by omega)) (by first | rfl | simp (disch := omega) only [sane, saat]) (by first | rfl | simp (disch := omega) only [sane, saat]) (by first | rfl | simp (disch := omega) only [sane, saat]) (by first | rfl | simp (disch := omega) only [sane, saat])

