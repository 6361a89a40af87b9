/-! The operations: class and reference tell the same -/
theorem inV_pm {t : Int32} (h : ¬ inV t (-1) 1 = 0) : t = 0 ∨ t = 1 ∨ t = -1 := by
  obtain ⟨h1, h2⟩ := inV_ge h
  rw [Int32.lt_iff_toInt_lt, show (-1 : Int32).toInt = -1 from rfl] at h1
  rw [Int32.lt_iff_toInt_lt, show (1 : Int32).toInt = 1 from rfl] at h2
  rcases (show t.toInt = 0 ∨ t.toInt = 1 ∨ t.toInt = -1 by omega) with e | e | e
  · exact Or.inl (Int32.toInt_inj.mp e)
  · exact Or.inr (Or.inl (Int32.toInt_inj.mp e))
  · exact Or.inr (Or.inr (Int32.toInt_inj.mp e))
theorem inV_mx {t : Int32} : inV t 0 2147483647 = 0 ↔ ¬ 0 ≤ t := by
  have h0 := Int32.toInt_lt t
  unfold inV
  by_cases c : t < 0
  · rw [if_pos c]
    exact ⟨fun _ q => absurd (Int32.lt_of_lt_of_le c q) Int32.lt_irrefl, fun _ => rfl⟩
  · rw [if_neg c, if_neg (fun q => by rw [Int32.lt_iff_toInt_lt, show (2147483647 : Int32).toInt = 2147483647 from rfl] at q; omega)]
    exact ⟨fun q => absurd q (by decide), fun q => absurd (Int32.not_lt.mp c) q⟩
theorem inV_in {t : Int32} {lo hi : Nat} (hl : lo < 2 ^ 31) (hh : hi < 2 ^ 31) (h : ¬ inV t (nI lo) (nI hi) = 0) : ∃ q, lo ≤ q ∧ q ≤ hi ∧ t = nI q := by
  · obtain ⟨h1, h2⟩ := inV_ge h
    have h0 : ¬ t < 0 := fun q => h1 (Int32.lt_of_lt_of_le q (nI_pos' hl))
    obtain ⟨j, hj, rfl⟩ := nI_of h0
    rw [nI_ltI hj hl] at h1
    rw [nI_ltI hh hj] at h2
    exact ⟨j, by omega, by omega, rfl⟩
theorem saveS_y {h : zH} {a n n1 J : Nat} {β β2 τ : zB} {o s : Int32} {rf : Nat → Option Nat} {φ2 : Nat → Int32} {c π : zB} {sn : Option Nat} {ρ : Nat → zB} {κ : zB} {y : Nat → Int64} {H1 : zH} (hy : h (a + 39) = lcell y) (q : ∃ h2 rf2, H1 = zTo h2 a β2 τ o s rf2 φ2 c π sn ∧ zSv a n h rf sn ρ κ J β h2 rf2 n1) : ∃ y, H1 (a + 39) = lcell y := by
  obtain ⟨h2, rf2, rfl, k1, k2⟩ := q
  exact ⟨y, (To_out (by omega)).trans ((k1 _ (by omega)).trans hy)⟩
theorem op_bend {l : Launch} {D : va_G} {base : Nat} (G : l.stackTraces = false) {B a n u v L : Nat} {h : zH} {β τ : zB} {rf : Nat → Option Nat} {φ : Nat → Int32} {c π : zB} {sn : Option Nat} {ρ : Nat → zB} {κ : zB} {ψ : Nat → Int32} {μ : zB} {y : Nat → Int64} (hB : B + 2000 < 2 ^ 27) (hm : zobjAt (5, fsM (a + 31) ψ) 7 lnM μ (a + 31) h) (hy : h (a + 39) = lcell y) (hx : zExt a n h rf sn ρ κ) (hr : RR B β u v rf φ c sn ρ κ ψ μ L) {p0 p1 p2 : Int32} : OPw l D base (B + 2000) a n (zTo h a β τ (nI u) (nI v) rf φ c π sn) yL_bend w_L_bend [.ref a, .int p0, .int p1, .int p2, .ref (a + 39)] yX5_bend w_X5_bend [.ref (a + 31), .int p0, .int p1, .int p2] := by
  have hu := hr.1
  have hv := hr.2.1
  have hs := hr.2.2.1
  have hz := hr.2.2.2.1
  by_cases f0 : inV p0 0 7 = 0
  · skip
    exact OPw_x (by decide) hm hy hx hr (by omega) (by omega) (WL_bend_x1 (by omega) (by omega) (by omega) To_o (c_X4_bend_x1 G f0)) (fun g n1 => c_X5_bend_x1 G f0)
  by_cases f1 : inV p1 0 6 = 0
  · skip
    exact OPw_x (by decide) hm hy hx hr (by omega) (by omega) (WL_bend_x1 (by omega) (by omega) (by omega) To_o (c_X4_bend_x2 G f0 f1)) (fun g n1 => c_X5_bend_x2 G f0 f1)
  by_cases f2 : inV p2 (-1) 1 = 0
  · skip
    exact OPw_x (by decide) hm hy hx hr (by omega) (by omega) (WL_bend_x2 (by omega) (by omega) (by omega) To_o (c_X4_bend_x3 G f0 f1 f2)) (fun g n1 => c_X5_bend_x3 G f0 f1 f2)
  obtain ⟨r, hr7, rfl⟩ := inV_ex (k := 7) (by decide) f0
  obtain ⟨q, hq6, rfl⟩ := inV_ex (k := 6) (by decide) f1
  have h16 := RB_16 hz
  have hC := c_X4_bend G (D := D) (base := base) (h := h) (n := n) (a := a) (β := β) (τ := τ) (rf := rf) (φ := φ) (c := c) (π := π) (sn := sn) hu hv hx (r := r) (c1 := q) (by omega) (by omega) h16.1 h16.2.1 (fun e => h16.2.2 _ (by omega) e) f2
  rw [show β 1 (r * 7 + q) + 1 = μ 0 (20 + (7 * r + q)) + 1 by rw [hz.1.p (by omega), Nat.mul_comm r 7]] at hC
  exact OPw_s (L2 := L) hm hr (by omega) (by omega) (WL_bend_ok (by omega) (by omega) (by omega) To_o hC (fun H1 n1 q => saveS_y hy q)) (fun g n1 => c_X5_bend G hs hv (by omega) (by omega) f2) (by simp (disch := omega) only [va_ne, vat]) (fun _ _ q => q) (by simp (disch := omega) only [va_ne, vat]) (by simp (disch := omega) only [va_ne, vat]) (by first | rfl | simp (disch := omega) only [sane, saat]) (by first | rfl | simp (disch := omega) only [sane, saat]) (by first | rfl | simp (disch := omega) only [sane, saat]) (by rw [saat]; exact (by rw [Nat.mul_comm 7 r]; exact (RB_bend hz (by omega) (inV_pm f2) h16.1 h16.2.1).mono (by omega))) (hr.2.2.2.2.2.2.1) (by simp (disch := omega) only [va_ne]; exact hr.2.2.2.2.2.2.2.1) (hr.2.2.2.2.2.2.2.2.1)

theorem op_pocket {l : Launch} {D : va_G} {base : Nat} (G : l.stackTraces = false) {B a n u v L : Nat} {h : zH} {β τ : zB} {rf : Nat → Option Nat} {φ : Nat → Int32} {c π : zB} {sn : Option Nat} {ρ : Nat → zB} {κ : zB} {ψ : Nat → Int32} {μ : zB} {y : Nat → Int64} (hB : B + 2000 < 2 ^ 27) (hm : zobjAt (5, fsM (a + 31) ψ) 7 lnM μ (a + 31) h) (hy : h (a + 39) = lcell y) (hx : zExt a n h rf sn ρ κ) (hr : RR B β u v rf φ c sn ρ κ ψ μ L) {p0 p1 p2 : Int32} : OPw l D base (B + 2000) a n (zTo h a β τ (nI u) (nI v) rf φ c π sn) yL_pocket w_L_pocket [.ref a, .int p0, .int p1, .int p2, .ref (a + 39)] yX5_pocket w_X5_pocket [.ref (a + 31), .int p0, .int p1, .int p2] := by
  have hu := hr.1
  have hv := hr.2.1
  have hs := hr.2.2.1
  have hz := hr.2.2.2.1
  by_cases f0 : inV p0 0 6 = 0
  · skip
    exact OPw_x (by decide) hm hy hx hr (by omega) (by omega) (WL_pocket_x1 (by omega) (by omega) (by omega) To_o (c_X4_pocket_x1 G f0)) (fun g n1 => c_X5_pocket_x1 G f0)
  by_cases f1 : inV p1 0 2 = 0
  · skip
    exact OPw_x (by decide) hm hy hx hr (by omega) (by omega) (WL_pocket_x2 (by omega) (by omega) (by omega) To_o (c_X4_pocket_x2 G f0 f1)) (fun g n1 => c_X5_pocket_x2 G f0 f1)
  by_cases f2 : inV p2 0 15 = 0
  · skip
    exact OPw_x (by decide) hm hy hx hr (by omega) (by omega) (WL_pocket_x2 (by omega) (by omega) (by omega) To_o (c_X4_pocket_x3 G f0 f1 f2)) (fun g n1 => c_X5_pocket_x3 G f0 f1 f2)
  obtain ⟨r, hr6, rfl⟩ := inV_ex (k := 6) (by decide) f0
  obtain ⟨q, hq2, e1⟩ := inV_ex (k := 2) (by decide) f1
  obtain ⟨w, hw, e2⟩ := inV_ex (k := 15) (by decide) f2
  have hk : p1 = 0 ∨ p1 = 1 ∨ p1 = 2 := by
    rcases (show q = 0 ∨ q = 1 ∨ q = 2 by omega) with e | e | e <;> rw [e1, e]
    · exact Or.inl rfl
    · exact Or.inr (Or.inl rfl)
    · exact Or.inr (Or.inr rfl)
  have hC := c_X4_pocket G (D := D) (base := base) (h := h) (n := n) (a := a) (β := β) (τ := τ) (rf := rf) (φ := φ) (c := c) (π := π) (sn := sn) hu hv hx (p := r) (by omega) f1 f2
  rw [show β 5 r = μ 0 (132 + 5 * r + 1) from hz.1.y (by omega)] at hC
  exact OPw_s (L2 := L) hm hr (by omega) (by omega) (WL_pocket_ok (by omega) (by omega) (by omega) To_o hC (fun H1 n1 q => saveS_y hy q)) (fun g n1 => c_X5_pocket G hs hv (by omega) f1 f2) (by simp (disch := omega) only [va_ne, vat]) (fun _ _ q => q) (by simp (disch := omega) only [va_ne, vat]) (by simp (disch := omega) only [va_ne, vat]) (by first | rfl | simp (disch := omega) only [sane, saat]) (by first | rfl | simp (disch := omega) only [sane, saat]) (by first | rfl | simp (disch := omega) only [sane, saat]) (by rw [saat]; exact ((RB_poc hz (by omega) hk ⟨w, hw, e2⟩).mono (by omega))) (hr.2.2.2.2.2.2.1) (by simp (disch := omega) only [va_ne]; exact hr.2.2.2.2.2.2.2.1) (hr.2.2.2.2.2.2.2.2.1)

theorem op_start {l : Launch} {D : va_G} {base : Nat} (G : l.stackTraces = false) {B a n u v L : Nat} {h : zH} {β τ : zB} {rf : Nat → Option Nat} {φ : Nat → Int32} {c π : zB} {sn : Option Nat} {ρ : Nat → zB} {κ : zB} {ψ : Nat → Int32} {μ : zB} {y : Nat → Int64} (hB : B + 2000 < 2 ^ 27) (hm : zobjAt (5, fsM (a + 31) ψ) 7 lnM μ (a + 31) h) (hy : h (a + 39) = lcell y) (hx : zExt a n h rf sn ρ κ) (hr : RR B β u v rf φ c sn ρ κ ψ μ L) {p0 : Int32} : OPw l D base (B + 2000) a n (zTo h a β τ (nI u) (nI v) rf φ c π sn) yL_start w_L_start [.ref a, .int p0, .ref (a + 39)] yX5_start w_X5_start [.ref (a + 31), .int p0] := by
  have hu := hr.1
  have hv := hr.2.1
  have hs := hr.2.2.1
  have hz := hr.2.2.2.1
  by_cases f0 : inV p0 0 6 = 0
  · skip
    exact OPw_x (by decide) hm hy hx hr (by omega) (by omega) (WL_start_x1 (by omega) (by omega) (by omega) To_o (c_X4_start_x1 G f0)) (fun g n1 => c_X5_start_x1 G f0)
  have hC := c_X4_start G (D := D) (base := base) (h := h) (n := n) (a := a) (β := β) (τ := τ) (rf := rf) (φ := φ) (c := c) (π := π) (sn := sn) hu hv hx f0
  rw [show β 0 12 = μ 0 13 from hz.1.n (i := 12) (by omega)] at hC
  exact OPw_s (L2 := L) hm hr (by omega) (by omega) (WL_start_ok (by omega) (by omega) (by omega) To_o hC (fun H1 n1 q => saveS_y hy q)) (fun g n1 => c_X5_start G hs hv f0) (by simp (disch := omega) only [va_ne, vat]) (fun _ _ q => q) (by simp (disch := omega) only [va_ne, vat]) (by simp (disch := omega) only [va_ne, vat]) (by first | rfl | simp (disch := omega) only [sane, saat]) (by first | rfl | simp (disch := omega) only [sane, saat]) (by first | rfl | simp (disch := omega) only [sane, saat]) (by rw [saat]; exact ((RB_num hz (RV_num hz.1 (i := 12) (by omega) p0) (by omega) (by omega) (fun e => absurd e (by omega)) (fun e => absurd e (by omega))).mono (by omega))) (hr.2.2.2.2.2.2.1) (by simp (disch := omega) only [va_ne]; exact hr.2.2.2.2.2.2.2.1) (hr.2.2.2.2.2.2.2.2.1)

theorem op_set {l : Launch} {D : va_G} {base : Nat} (G : l.stackTraces = false) {B a n u v L : Nat} {h : zH} {β τ : zB} {rf : Nat → Option Nat} {φ : Nat → Int32} {c π : zB} {sn : Option Nat} {ρ : Nat → zB} {κ : zB} {ψ : Nat → Int32} {μ : zB} {y : Nat → Int64} (hB : B + 2000 < 2 ^ 27) (hm : zobjAt (5, fsM (a + 31) ψ) 7 lnM μ (a + 31) h) (hy : h (a + 39) = lcell y) (hx : zExt a n h rf sn ρ κ) (hr : RR B β u v rf φ c sn ρ κ ψ μ L) {p0 p1 : Int32} : OPw l D base (B + 2000) a n (zTo h a β τ (nI u) (nI v) rf φ c π sn) yL_set w_L_set [.ref a, .int p0, .int p1, .ref (a + 39)] yX5_set w_X5_set [.ref (a + 31), .int p0, .int p1] := by
  have hu := hr.1
  have hv := hr.2.1
  have hs := hr.2.2.1
  have hz := hr.2.2.2.1
  by_cases f0 : inV p0 0 1 = 0
  · skip
    exact OPw_x (by decide) hm hy hx hr (by omega) (by omega) (WL_set_x1 (by omega) (by omega) (by omega) To_o (c_X4_set_x1 G f0)) (fun g n1 => c_X5_set_x1 G f0)
  obtain ⟨r, hr1, e⟩ := inV_ex (k := 1) (by decide) f0
  rcases (show r = 0 ∨ r = 1 by omega) with q | q
  · rw [q] at e
    have e : p0 = 0 := e
    subst e
    by_cases f1 : inV p1 1 10 = 0
    · skip
      exact OPw_x (by decide) hm hy hx hr (by omega) (by omega) (WL_set_x2 (by omega) (by omega) (by omega) To_o (c_X4_set_x2 G f1)) (fun g n1 => c_X5_set_x2 G f0 rfl f1)
    have hC := c_X4_set_0 G (D := D) (base := base) (h := h) (n := n) (a := a) (β := β) (τ := τ) (rf := rf) (φ := φ) (c := c) (π := π) (sn := sn) hu hv hx f1
    rw [show β 0 14 = μ 0 14 from hz.1.s1] at hC
    exact OPw_s (L2 := L) hm hr (by omega) (by omega) (WL_set_ok (by omega) (by omega) (by omega) To_o hC (fun H1 n1 q => saveS_y hy q)) (fun g n1 => c_X5_set_0 G hs hv f1) (by simp (disch := omega) only [va_ne, vat]) (fun _ _ q => q) (by simp (disch := omega) only [va_ne, vat]) (by simp (disch := omega) only [va_ne, vat]) (by first | rfl | simp (disch := omega) only [sane, saat]) (by first | rfl | simp (disch := omega) only [sane, saat]) (by first | rfl | simp (disch := omega) only [sane, saat]) (by rw [saat]; exact ((RB_num hz (RV_s1 hz.1 p1) (by omega) (by omega) (fun e => absurd e (by omega)) (fun _ => Int32.not_lt.mp (fun w => (inV_ge f1).1 (Int32.lt_trans w (by decide))))).mono (by omega))) (hr.2.2.2.2.2.2.1) (by simp (disch := omega) only [va_ne]; exact hr.2.2.2.2.2.2.2.1) (hr.2.2.2.2.2.2.2.2.1)
  · rw [q] at e
    have e : p0 = 1 := e
    subst e
    by_cases f1 : inV p1 0 20 = 0
    · skip
      exact OPw_x (by decide) hm hy hx hr (by omega) (by omega) (WL_set_x2 (by omega) (by omega) (by omega) To_o (c_X4_set_x3 G f1)) (fun g n1 => c_X5_set_x3 G f0 (by decide) f1)
    have hC := c_X4_set_1 G (D := D) (base := base) (h := h) (n := n) (a := a) (β := β) (τ := τ) (rf := rf) (φ := φ) (c := c) (π := π) (sn := sn) hu hv hx f1
    rw [show β 0 15 = μ 0 15 from hz.1.s2] at hC
    exact OPw_s (L2 := L) hm hr (by omega) (by omega) (WL_set_ok (by omega) (by omega) (by omega) To_o hC (fun H1 n1 q => saveS_y hy q)) (fun g n1 => c_X5_set_1 G hs hv f1) (by simp (disch := omega) only [va_ne, vat]) (fun _ _ q => q) (by simp (disch := omega) only [va_ne, vat]) (by simp (disch := omega) only [va_ne, vat]) (by first | rfl | simp (disch := omega) only [sane, saat]) (by first | rfl | simp (disch := omega) only [sane, saat]) (by first | rfl | simp (disch := omega) only [sane, saat]) (by rw [saat]; exact ((RB_num hz (RV_s2 hz.1 p1) (by omega) (by omega) (fun e => absurd e (by omega)) (fun e => absurd e (by omega))).mono (by omega))) (hr.2.2.2.2.2.2.1) (by simp (disch := omega) only [va_ne]; exact hr.2.2.2.2.2.2.2.1) (hr.2.2.2.2.2.2.2.2.1)

theorem op_shuffle {l : Launch} {D : va_G} {base : Nat} (G : l.stackTraces = false) {B a n u v L : Nat} {h : zH} {β τ : zB} {rf : Nat → Option Nat} {φ : Nat → Int32} {c π : zB} {sn : Option Nat} {ρ : Nat → zB} {κ : zB} {ψ : Nat → Int32} {μ : zB} {y : Nat → Int64} (hB : B + 2000 < 2 ^ 27) (hm : zobjAt (5, fsM (a + 31) ψ) 7 lnM μ (a + 31) h) (hy : h (a + 39) = lcell y) (hx : zExt a n h rf sn ρ κ) (hr : RR B β u v rf φ c sn ρ κ ψ μ L) {p0 : Int32} : OPw l D base (B + 2000) a n (zTo h a β τ (nI u) (nI v) rf φ c π sn) yL_shuffle w_L_shuffle [.ref a, .int p0, .ref (a + 39)] yX5_shuffle w_X5_shuffle [.ref (a + 31), .int p0] := by
  have hu := hr.1
  have hv := hr.2.1
  have hs := hr.2.2.1
  have hz := hr.2.2.2.1
  by_cases f0 : inV p0 0 2147483647 = 0
  · skip
    exact OPw_x (by decide) hm hy hx hr (by omega) (by omega) (WL_shuffle_x1 (by omega) (by omega) (by omega) To_o (c_X4_shuffle_x1 G f0)) (fun g n1 => c_X5_shuffle_x1 G (inV_mx.mp f0))
  have g0 : 0 ≤ p0 := Decidable.not_not.mp (fun w => f0 (inV_mx.mpr w))
  have hC := c_X4_shuffle G (D := D) (base := base) (h := h) (n := n) (a := a) (β := β) (τ := τ) (rf := rf) (φ := φ) (c := c) (π := π) (sn := sn) hu hv hx f0
  rw [show β 0 13 = μ 0 0 from hz.1.x] at hC
  exact OPw_s (L2 := L) hm hr (by omega) (by omega) (WL_shuffle_ok (by omega) (by omega) (by omega) To_o hC (fun H1 n1 q => saveS_y hy q)) (fun g n1 => c_X5_shuffle G hs hv g0) (by simp (disch := omega) only [va_ne, vat]) (fun _ _ q => q) (by simp (disch := omega) only [va_ne, vat]) (by simp (disch := omega) only [va_ne, vat]) (by first | rfl | simp (disch := omega) only [sane, saat]) (by first | rfl | simp (disch := omega) only [sane, saat]) (by first | rfl | simp (disch := omega) only [sane, saat]) (by rw [saat]; exact ((RB_num hz (RV_x hz.1 p0) (by omega) (by omega) (fun _ => g0) (fun e => absurd e (by omega))).mono (by omega))) (hr.2.2.2.2.2.2.1) (by simp (disch := omega) only [va_ne]; exact hr.2.2.2.2.2.2.2.1) (hr.2.2.2.2.2.2.2.2.1)

theorem op_buy {l : Launch} {D : va_G} {base : Nat} (G : l.stackTraces = false) {B a n u v L : Nat} {h : zH} {β τ : zB} {rf : Nat → Option Nat} {φ : Nat → Int32} {c π : zB} {sn : Option Nat} {ρ : Nat → zB} {κ : zB} {ψ : Nat → Int32} {μ : zB} {y : Nat → Int64} (hB : B + 2000 < 2 ^ 27) (hm : zobjAt (5, fsM (a + 31) ψ) 7 lnM μ (a + 31) h) (hy : h (a + 39) = lcell y) (hx : zExt a n h rf sn ρ κ) (hr : RR B β u v rf φ c sn ρ κ ψ μ L) {p0 : Int32} : OPw l D base (B + 2000) a n (zTo h a β τ (nI u) (nI v) rf φ c π sn) yL_buy w_L_buy [.ref a, .int p0, .ref (a + 39)] yX5_buy w_X5_buy [.ref (a + 31), .int p0] := by
  have hu := hr.1
  have hv := hr.2.1
  have hs := hr.2.2.1
  have hz := hr.2.2.2.1
  by_cases f0 : inV p0 1 99 = 0
  · skip
    exact OPw_x (by decide) hm hy hx hr (by omega) (by omega) (WL_buy_x1 (by omega) (by omega) (by omega) To_o (c_X4_buy_x1 G f0)) (fun g n1 => c_X5_buy_x1 G f0)
  have hC := c_X4_buy G (D := D) (base := base) (h := h) (n := n) (a := a) (β := β) (τ := τ) (rf := rf) (φ := φ) (c := c) (π := π) (sn := sn) hu hv hx f0
  rw [show buyB β p0 0 0 = μ 0 1 + p0 by unfold buyB; rw [u2at, va_ne (by omega), u2at, vat]; rw [hz.1.n (i := 0) (by omega)]] at hC
  exact OPw_s (L2 := L) hm hr (by omega) (by omega) (WL_buy_ok (by omega) (by omega) (by omega) To_o hC (fun H1 n1 q => saveS_y hy q)) (fun g n1 => c_X5_buy G hs hv f0) (by simp (disch := omega) only [va_ne, vat]) (fun _ _ q => q) (by simp (disch := omega) only [va_ne, vat]) (by simp (disch := omega) only [va_ne, vat]) (by first | rfl | simp (disch := omega) only [sane, saat]) (by first | rfl | simp (disch := omega) only [sane, saat]) (by first | rfl | simp (disch := omega) only [sane, saat]) (by rw [saat]; exact ((RB_buy hz p0).mono (by omega))) (hr.2.2.2.2.2.2.1) (by simp (disch := omega) only [va_ne]; exact hr.2.2.2.2.2.2.2.1) (hr.2.2.2.2.2.2.2.2.1)

theorem op_launch {l : Launch} {D : va_G} {base : Nat} (G : l.stackTraces = false) {B a n u v L : Nat} {h : zH} {β τ : zB} {rf : Nat → Option Nat} {φ : Nat → Int32} {c π : zB} {sn : Option Nat} {ρ : Nat → zB} {κ : zB} {ψ : Nat → Int32} {μ : zB} {y : Nat → Int64} (hB : B + 2000 < 2 ^ 27) (hm : zobjAt (5, fsM (a + 31) ψ) 7 lnM μ (a + 31) h) (hy : h (a + 39) = lcell y) (hx : zExt a n h rf sn ρ κ) (hr : RR B β u v rf φ c sn ρ κ ψ μ L) {p0 : Int32} : OPw l D base (B + 2000) a n (zTo h a β τ (nI u) (nI v) rf φ c π sn) yL_launch w_L_launch [.ref a, .int p0, .ref (a + 39)] yX5_launch w_X5_launch [.ref (a + 31), .int p0] := by
  have hu := hr.1
  have hv := hr.2.1
  have hs := hr.2.2.1
  have hz := hr.2.2.2.1
  have e1 : β 0 0 = μ 0 1 := hz.1.n (i := 0) (by omega)
  by_cases f0 : inV p0 0 6 = 0
  · skip
    exact OPw_x (by decide) hm hy hx hr (by omega) (by omega) (WL_launch_x1 (by omega) (by omega) (by omega) To_o (c_X4_launch_x1 G f0)) (fun g n1 => c_X5_launch_x1 G f0)
  by_cases f1 : μ 0 1 = 0
  · skip
    exact OPw_x (by decide) hm hy hx hr (by omega) (by omega) (WL_launch_x2 (by omega) (by omega) (by omega) To_o (c_X4_launch_x2 G f0 (e1.trans f1))) (fun g n1 => c_X5_launch_x2 G f0 f1)
  obtain ⟨r, hr6, rfl⟩ := inV_ex (k := 6) (by decide) f0
  have hl := RB_lch hz (c := r) (by omega)
  have hC := c_X4_launch G (D := D) (base := base) (h := h) (n := n) (a := a) (β := β) (τ := τ) (rf := rf) (φ := φ) (c := c) (π := π) (sn := sn) hu hv hx hz.pin (c1 := r) (by omega) (by rw [e1]; exact f1)
  rw [show lchB β r 0 11 = lchZ (μ 0) r 12 from hl.1.1.n (i := 11) (by omega)] at hC
  exact OPw_s (L2 := L) hm hr (by omega) (by omega) (WL_launch_ok (by omega) (by omega) (by omega) To_o hC (fun H1 n1 q => saveS_y hy q)) (fun g n1 => c_X5_launch G hs hv hz.2.2.x hz.2.2.p (by omega) f1) (by simp (disch := omega) only [va_ne, vat]) (fun _ _ q => q) (by simp (disch := omega) only [va_ne, vat]) (by simp (disch := omega) only [va_ne, vat]) (by first | rfl | simp (disch := omega) only [sane, saat]) (by first | rfl | simp (disch := omega) only [sane, saat]) (by first | rfl | simp (disch := omega) only [sane, saat]) (by rw [saat]; exact (hl.1.mono (by omega))) (hr.2.2.2.2.2.2.1) (by simp (disch := omega) only [va_ne]; exact hr.2.2.2.2.2.2.2.1) (hr.2.2.2.2.2.2.2.2.1)

theorem op_play {l : Launch} {D : va_G} {base : Nat} (G : l.stackTraces = false) {B a n u v L : Nat} {h : zH} {β τ : zB} {rf : Nat → Option Nat} {φ : Nat → Int32} {c π : zB} {sn : Option Nat} {ρ : Nat → zB} {κ : zB} {ψ : Nat → Int32} {μ : zB} {y : Nat → Int64} (hB : B + 2000 < 2 ^ 27) (hm : zobjAt (5, fsM (a + 31) ψ) 7 lnM μ (a + 31) h) (hy : h (a + 39) = lcell y) (hx : zExt a n h rf sn ρ κ) (hr : RR B β u v rf φ c sn ρ κ ψ μ L) {p0 p1 : Int32} : OPw l D base (B + 2000) a n (zTo h a β τ (nI u) (nI v) rf φ c π sn) yL_play w_L_play [.ref a, .int p0, .int p1, .ref (a + 39)] yX5_play w_X5_play [.ref (a + 31), .int p0, .int p1] := by
  have hu := hr.1
  have hv := hr.2.1
  have hs := hr.2.2.1
  have hz := hr.2.2.2.1
  by_cases f0 : inV p0 0 6 = 0
  · skip
    exact OPw_x (by decide) hm hy hx hr (by omega) (by omega) (WL_play_x1 (by omega) (by omega) (by omega) To_o (c_X4_play_x1 G f0)) (fun g n1 => c_X5_play_x1 G f0)
  by_cases f1 : inV p1 1 30 = 0
  · skip
    exact OPw_x (by decide) hm hy hx hr (by omega) (by omega) (WL_play_x2 (by omega) (by omega) (by omega) To_o (c_X4_play_x2 G f0 f1)) (fun g n1 => c_X5_play_x2 G f0 f1)
  obtain ⟨r, hr6, rfl⟩ := inV_ex (k := 6) (by decide) f0
  obtain ⟨q, hq1, hq2, rfl⟩ := inV_in (lo := 1) (hi := 30) (by decide) (by decide) f1
  have hl := RB_pl (c := r) (by omega) q 0 hz
  have hC := c_X4_play G (D := D) (base := base) (h := h) (n := n) (a := a) (β := β) (τ := τ) (rf := rf) (φ := φ) (c := c) (π := π) (sn := sn) hu hv hx hz.pin (c1 := r) (m := q) (by omega) hq1 hq2
  rw [hl.2] at hC
  exact OPw_s (L2 := L) hm hr (by omega) (by omega) (WL_play_ok (by omega) (by omega) (by omega) To_o hC (fun H1 n1 q => saveS_y hy q)) (fun g n1 => c_X5_play G hs hv hz.2.2.x hz.2.2.p (by omega) hq1 hq2) (by simp (disch := omega) only [va_ne, vat]) (fun _ _ q => q) (by simp (disch := omega) only [va_ne, vat]) (by simp (disch := omega) only [va_ne, vat]) (by first | rfl | simp (disch := omega) only [sane, saat]) (by first | rfl | simp (disch := omega) only [sane, saat]) (by first | rfl | simp (disch := omega) only [sane, saat]) (by rw [saat]; exact (hl.1.mono (by omega))) (hr.2.2.2.2.2.2.1) (by simp (disch := omega) only [va_ne]; exact hr.2.2.2.2.2.2.2.1) (hr.2.2.2.2.2.2.2.2.1)

theorem op_pin {l : Launch} {D : va_G} {base : Nat} (G : l.stackTraces = false) {B a n u v L : Nat} {h : zH} {β τ : zB} {rf : Nat → Option Nat} {φ : Nat → Int32} {c π : zB} {sn : Option Nat} {ρ : Nat → zB} {κ : zB} {ψ : Nat → Int32} {μ : zB} {y : Nat → Int64} (hB : B + 2000 < 2 ^ 27) (hm : zobjAt (5, fsM (a + 31) ψ) 7 lnM μ (a + 31) h) (hy : h (a + 39) = lcell y) (hx : zExt a n h rf sn ρ κ) (hr : RR B β u v rf φ c sn ρ κ ψ μ L) {p0 p1 : Int32} : OPw l D base (B + 2000) a n (zTo h a β τ (nI u) (nI v) rf φ c π sn) yL_pin w_L_pin [.ref a, .int p0, .int p1, .ref (a + 39)] yX5_pin w_X5_pin [.ref (a + 31), .int p0, .int p1] := by
  have hu := hr.1
  have hv := hr.2.1
  have hs := hr.2.2.1
  have hz := hr.2.2.2.1
  by_cases f0 : inV p0 0 7 = 0
  · skip
    exact OPw_x (by decide) hm hy hx hr (by omega) (by omega) (WL_pin_x1 (by omega) (by omega) (by omega) To_o (c_X4_pin_x1 G f0)) (fun g n1 => c_X5_pin_x1 G f0)
  by_cases f1 : inV p1 0 6 = 0
  · skip
    exact OPw_x (by decide) hm hy hx hr (by omega) (by omega) (WL_pin_x1 (by omega) (by omega) (by omega) To_o (c_X4_pin_x2 G f0 f1)) (fun g n1 => c_X5_pin_x2 G f0 f1)
  obtain ⟨r, hr7, rfl⟩ := inV_ex (k := 7) (by decide) f0
  obtain ⟨q, hq6, rfl⟩ := inV_ex (k := 6) (by decide) f1
  have hC := c_X4_pin G (D := D) (base := base) (h := h) (n := n) (a := a) (β := β) (τ := τ) (rf := rf) (φ := φ) (c := c) (π := π) (sn := sn) (o := nI u) (s := nI v) (r := r) (c1 := q) (by omega) (by omega)
  rw [show β 1 (r * 7 + q) + 1 = μ 0 (20 + (7 * r + q)) + 1 by rw [hz.1.p (by omega), Nat.mul_comm r 7]] at hC
  exact OPw_l hm hx hr (by omega) (by omega) (WL_pin_ok (S := fun b m => b = zTo h a β (τ) (nI u) (nI v) rf φ c (π) sn ∧ m = n) (by omega) (by omega) (by omega) To_o hC (fun H1 n1 q => by rw [q.1]; exact ⟨y, (To_out (by omega)).trans hy⟩)) (fun g n1 => c_X5_pin G (by omega) (by omega)) (by simp (disch := omega) only [va_ne, vat]) (fun H1 n1 q => ⟨_, _, q.1, q.2⟩) (by simp (disch := omega) only [va_ne, vat]) (by simp (disch := omega) only [va_ne, vat]) (by simp (disch := omega) only [va_ne, vat]) (by first | rfl | simp (disch := omega) only [sane, saat]) (by first | rfl | simp (disch := omega) only [sane, saat]) (by first | rfl | simp (disch := omega) only [sane, saat]) (by first | rfl | simp (disch := omega) only [sane, saat])

theorem op_bent {l : Launch} {D : va_G} {base : Nat} (G : l.stackTraces = false) {B a n u v L : Nat} {h : zH} {β τ : zB} {rf : Nat → Option Nat} {φ : Nat → Int32} {c π : zB} {sn : Option Nat} {ρ : Nat → zB} {κ : zB} {ψ : Nat → Int32} {μ : zB} {y : Nat → Int64} (hB : B + 2000 < 2 ^ 27) (hm : zobjAt (5, fsM (a + 31) ψ) 7 lnM μ (a + 31) h) (hy : h (a + 39) = lcell y) (hx : zExt a n h rf sn ρ κ) (hr : RR B β u v rf φ c sn ρ κ ψ μ L) {p0 : Int32} : OPw l D base (B + 2000) a n (zTo h a β τ (nI u) (nI v) rf φ c π sn) yL_bent w_L_bent [.ref a, .int p0, .ref (a + 39)] yX5_bent w_X5_bent [.ref (a + 31), .int p0] := by
  have hu := hr.1
  have hv := hr.2.1
  have hs := hr.2.2.1
  have hz := hr.2.2.2.1
  by_cases f0 : inV p0 0 2147483647 = 0
  · skip
    exact OPw_x (by decide) hm hy hx hr (by omega) (by omega) (WL_bent_x1 (by omega) (by omega) (by omega) To_o (c_X4_bent_x1 G f0)) (fun g n1 => c_X5_bent_x1 G (inV_mx.mp f0))
  have g0 : 0 ≤ p0 := Decidable.not_not.mp (fun w => f0 (inV_mx.mpr w))
  obtain ⟨q, hq, rfl⟩ := nI_of (Int32.not_lt.mpr g0)
  have h16 := RB_16 hz
  have hC := c_X4_bent G (D := D) (base := base) (h := h) (n := n) (a := a) (β := β) (τ := τ) (rf := rf) (φ := φ) (c := c) (π := π) (sn := sn) (o := nI u) (s := nI v) h16.1 h16.2.1 hq f0
  rw [show (if q < bpC (μ 0) 56 then β 2 q else -1) = baN (μ 0) (nI q) 56 from (RB_ba hz (by omega) hq).symm] at hC
  exact OPw_l hm hx hr (by omega) (by omega) (WL_bent_ok (S := fun b m => b = zTo h a β (τ) (nI u) (nI v) rf φ c (π) sn ∧ m = n) (by omega) (by omega) (by omega) To_o hC (fun H1 n1 q => by rw [q.1]; exact ⟨y, (To_out (by omega)).trans hy⟩)) (fun g n1 => c_X5_bent G g0) (by simp (disch := omega) only [va_ne, vat]) (fun H1 n1 q => ⟨_, _, q.1, q.2⟩) (by simp (disch := omega) only [va_ne, vat]) (by simp (disch := omega) only [va_ne, vat]) (by simp (disch := omega) only [va_ne, vat]) (by first | rfl | simp (disch := omega) only [sane, saat]) (by first | rfl | simp (disch := omega) only [sane, saat]) (by first | rfl | simp (disch := omega) only [sane, saat]) (by first | rfl | simp (disch := omega) only [sane, saat])

theorem op_touched {l : Launch} {D : va_G} {base : Nat} (G : l.stackTraces = false) {B a n u v L : Nat} {h : zH} {β τ : zB} {rf : Nat → Option Nat} {φ : Nat → Int32} {c π : zB} {sn : Option Nat} {ρ : Nat → zB} {κ : zB} {ψ : Nat → Int32} {μ : zB} {y : Nat → Int64} (hB : B + 2000 < 2 ^ 27) (hm : zobjAt (5, fsM (a + 31) ψ) 7 lnM μ (a + 31) h) (hy : h (a + 39) = lcell y) (hx : zExt a n h rf sn ρ κ) (hr : RR B β u v rf φ c sn ρ κ ψ μ L) {p0 : Int32} : OPw l D base (B + 2000) a n (zTo h a β τ (nI u) (nI v) rf φ c π sn) yL_touched w_L_touched [.ref a, .int p0, .ref (a + 39)] yX5_touched w_X5_touched [.ref (a + 31), .int p0] := by
  have hu := hr.1
  have hv := hr.2.1
  have hs := hr.2.2.1
  have hz := hr.2.2.2.1
  by_cases f0 : inV p0 0 7 = 0
  · skip
    exact OPw_x (by decide) hm hy hx hr (by omega) (by omega) (WL_touched_x1 (by omega) (by omega) (by omega) To_o (c_X4_touched_x1 G f0)) (fun g n1 => c_X5_touched_x1 G f0)
  obtain ⟨r, hr7, rfl⟩ := inV_ex (k := 7) (by decide) f0
  have hC := c_X4_touched G (D := D) (base := base) (h := h) (n := n) (a := a) (β := β) (τ := τ) (rf := rf) (φ := φ) (c := c) (π := π) (sn := sn) (o := nI u) (s := nI v) (r := r) (by omega)
  rw [show β 3 r = μ 0 (167 + r) from hz.1.t (by omega)] at hC
  exact OPw_l hm hx hr (by omega) (by omega) (WL_touched_ok (S := fun b m => b = zTo h a β (τ) (nI u) (nI v) rf φ c (π) sn ∧ m = n) (by omega) (by omega) (by omega) To_o hC (fun H1 n1 q => by rw [q.1]; exact ⟨y, (To_out (by omega)).trans hy⟩)) (fun g n1 => c_X5_touched G (by omega)) (by simp (disch := omega) only [va_ne, vat]) (fun H1 n1 q => ⟨_, _, q.1, q.2⟩) (by simp (disch := omega) only [va_ne, vat]) (by simp (disch := omega) only [va_ne, vat]) (by simp (disch := omega) only [va_ne, vat]) (by first | rfl | simp (disch := omega) only [sane, saat]) (by first | rfl | simp (disch := omega) only [sane, saat]) (by first | rfl | simp (disch := omega) only [sane, saat]) (by first | rfl | simp (disch := omega) only [sane, saat])

theorem op_pocketOf {l : Launch} {D : va_G} {base : Nat} (G : l.stackTraces = false) {B a n u v L : Nat} {h : zH} {β τ : zB} {rf : Nat → Option Nat} {φ : Nat → Int32} {c π : zB} {sn : Option Nat} {ρ : Nat → zB} {κ : zB} {ψ : Nat → Int32} {μ : zB} {y : Nat → Int64} (hB : B + 2000 < 2 ^ 27) (hm : zobjAt (5, fsM (a + 31) ψ) 7 lnM μ (a + 31) h) (hy : h (a + 39) = lcell y) (hx : zExt a n h rf sn ρ κ) (hr : RR B β u v rf φ c sn ρ κ ψ μ L) {p0 p1 : Int32} : OPw l D base (B + 2000) a n (zTo h a β τ (nI u) (nI v) rf φ c π sn) yL_pocketOf w_L_pocketOf [.ref a, .int p0, .int p1, .ref (a + 39)] yX5_pocketOf w_X5_pocketOf [.ref (a + 31), .int p0, .int p1] := by
  have hu := hr.1
  have hv := hr.2.1
  have hs := hr.2.2.1
  have hz := hr.2.2.2.1
  by_cases f0 : inV p0 0 6 = 0
  · skip
    exact OPw_x (by decide) hm hy hx hr (by omega) (by omega) (WL_pocketOf_x1 (by omega) (by omega) (by omega) To_o (c_X4_pocketOf_x1 G f0)) (fun g n1 => c_X5_pocketOf_x1 G f0)
  by_cases f1 : inV p1 0 4 = 0
  · skip
    exact OPw_x (by decide) hm hy hx hr (by omega) (by omega) (WL_pocketOf_x2 (by omega) (by omega) (by omega) To_o (c_X4_pocketOf_x2 G f0 f1)) (fun g n1 => c_X5_pocketOf_x2 G f0 f1)
  obtain ⟨r, hr7, rfl⟩ := inV_ex (k := 6) (by decide) f0
  obtain ⟨q, hq6, rfl⟩ := inV_ex (k := 4) (by decide) f1
  have hC := c_X4_pocketOf G (D := D) (base := base) (h := h) (n := n) (a := a) (β := β) (τ := τ) (rf := rf) (φ := φ) (c := c) (π := π) (sn := sn) (o := nI u) (s := nI v) (p := r) (w := q) (by omega) (by omega)
  rw [show tellV β r q = pkN (μ 0) r q from tell_pk hz (by omega) (by omega)] at hC
  exact OPw_l hm hx hr (by omega) (by omega) (WL_pocketOf_ok (S := fun b m => b = zTo h a β (τ) (nI u) (nI v) rf φ c (π) sn ∧ m = n) (by omega) (by omega) (by omega) To_o hC (fun H1 n1 q => by rw [q.1]; exact ⟨y, (To_out (by omega)).trans hy⟩)) (fun g n1 => c_X5_pocketOf G (by omega) (by omega)) (by simp (disch := omega) only [va_ne, vat]) (fun H1 n1 q => ⟨_, _, q.1, q.2⟩) (by simp (disch := omega) only [va_ne, vat]) (by simp (disch := omega) only [va_ne, vat]) (by simp (disch := omega) only [va_ne, vat]) (by first | rfl | simp (disch := omega) only [sane, saat]) (by first | rfl | simp (disch := omega) only [sane, saat]) (by first | rfl | simp (disch := omega) only [sane, saat]) (by first | rfl | simp (disch := omega) only [sane, saat])

theorem op_reel {l : Launch} {D : va_G} {base : Nat} (G : l.stackTraces = false) {B a n u v L : Nat} {h : zH} {β τ : zB} {rf : Nat → Option Nat} {φ : Nat → Int32} {c π : zB} {sn : Option Nat} {ρ : Nat → zB} {κ : zB} {ψ : Nat → Int32} {μ : zB} {y : Nat → Int64} (hB : B + 2000 < 2 ^ 27) (hm : zobjAt (5, fsM (a + 31) ψ) 7 lnM μ (a + 31) h) (hy : h (a + 39) = lcell y) (hx : zExt a n h rf sn ρ κ) (hr : RR B β u v rf φ c sn ρ κ ψ μ L) {p0 : Int32} : OPw l D base (B + 2000) a n (zTo h a β τ (nI u) (nI v) rf φ c π sn) yL_reel w_L_reel [.ref a, .int p0, .ref (a + 39)] yX5_reel w_X5_reel [.ref (a + 31), .int p0] := by
  have hu := hr.1
  have hv := hr.2.1
  have hs := hr.2.2.1
  have hz := hr.2.2.2.1
  by_cases f0 : inV p0 0 2 = 0
  · skip
    exact OPw_x (by decide) hm hy hx hr (by omega) (by omega) (WL_reel_x1 (by omega) (by omega) (by omega) To_o (c_X4_reel_x1 G f0)) (fun g n1 => c_X5_reel_x1 G f0)
  obtain ⟨r, hr7, rfl⟩ := inV_ex (k := 2) (by decide) f0
  have hC := c_X4_reel G (D := D) (base := base) (h := h) (n := n) (a := a) (β := β) (τ := τ) (rf := rf) (φ := φ) (c := c) (π := π) (sn := sn) (o := nI u) (s := nI v) (w := r) (by omega)
  rw [show β 9 r = μ 0 (17 + r) from hz.1.w (by omega)] at hC
  exact OPw_l hm hx hr (by omega) (by omega) (WL_reel_ok (S := fun b m => b = zTo h a β (τ) (nI u) (nI v) rf φ c (π) sn ∧ m = n) (by omega) (by omega) (by omega) To_o hC (fun H1 n1 q => by rw [q.1]; exact ⟨y, (To_out (by omega)).trans hy⟩)) (fun g n1 => c_X5_reel G (by omega)) (by simp (disch := omega) only [va_ne, vat]) (fun H1 n1 q => ⟨_, _, q.1, q.2⟩) (by simp (disch := omega) only [va_ne, vat]) (by simp (disch := omega) only [va_ne, vat]) (by simp (disch := omega) only [va_ne, vat]) (by first | rfl | simp (disch := omega) only [sane, saat]) (by first | rfl | simp (disch := omega) only [sane, saat]) (by first | rfl | simp (disch := omega) only [sane, saat]) (by first | rfl | simp (disch := omega) only [sane, saat])

theorem op_count {l : Launch} {D : va_G} {base : Nat} (G : l.stackTraces = false) {B a n u v L : Nat} {h : zH} {β τ : zB} {rf : Nat → Option Nat} {φ : Nat → Int32} {c π : zB} {sn : Option Nat} {ρ : Nat → zB} {κ : zB} {ψ : Nat → Int32} {μ : zB} {y : Nat → Int64} (hB : B + 2000 < 2 ^ 27) (hm : zobjAt (5, fsM (a + 31) ψ) 7 lnM μ (a + 31) h) (hy : h (a + 39) = lcell y) (hx : zExt a n h rf sn ρ κ) (hr : RR B β u v rf φ c sn ρ κ ψ μ L) {p0 : Int32} : OPw l D base (B + 2000) a n (zTo h a β τ (nI u) (nI v) rf φ c π sn) yL_count w_L_count [.ref a, .int p0, .ref (a + 39)] yX5_count w_X5_count [.ref (a + 31), .int p0] := by
  have hu := hr.1
  have hv := hr.2.1
  have hs := hr.2.2.1
  have hz := hr.2.2.2.1
  by_cases f0 : inV p0 0 17 = 0
  · skip
    exact OPw_x (by decide) hm hy hx hr (by omega) (by omega) (WL_count_x1 (by omega) (by omega) (by omega) To_o (c_X4_count_x1 G f0)) (fun g n1 => c_X5_count_x1 G f0)
  obtain ⟨r, hr7, rfl⟩ := inV_ex (k := 17) (by decide) f0
  have er : (if r = 17 then nI v else β 0 r) = cnN (μ 0) v r := by
    by_cases e : r = 17
    · subst e; rfl
    · rw [if_neg e]; exact num_cn hz (by omega)
  have hC := c_X4_count G (D := D) (base := base) (h := h) (n := n) (a := a) (β := β) (τ := τ) (rf := rf) (φ := φ) (c := c) (π := π) (sn := sn) (o := nI u) (s := nI v) (w := r) (by omega)
  rw [er] at hC
  exact OPw_l hm hx hr (by omega) (by omega) (WL_count_ok (S := fun b m => b = zTo h a β (τ) (nI u) (nI v) rf φ c (π) sn ∧ m = n) (by omega) (by omega) (by omega) To_o hC (fun H1 n1 q => by rw [q.1]; exact ⟨y, (To_out (by omega)).trans hy⟩)) (fun g n1 => c_X5_count G hs (by omega)) (by simp (disch := omega) only [va_ne, vat]) (fun H1 n1 q => ⟨_, _, q.1, q.2⟩) (by simp (disch := omega) only [va_ne, vat]) (by simp (disch := omega) only [va_ne, vat]) (by simp (disch := omega) only [va_ne, vat]) (by first | rfl | simp (disch := omega) only [sane, saat]) (by first | rfl | simp (disch := omega) only [sane, saat]) (by first | rfl | simp (disch := omega) only [sane, saat]) (by first | rfl | simp (disch := omega) only [sane, saat])

theorem op_ways {l : Launch} {D : va_G} {base : Nat} (G : l.stackTraces = false) {B a n u v L : Nat} {h : zH} {β τ : zB} {rf : Nat → Option Nat} {φ : Nat → Int32} {c π : zB} {sn : Option Nat} {ρ : Nat → zB} {κ : zB} {ψ : Nat → Int32} {μ : zB} {y : Nat → Int64} (hB : B + 2000 < 2 ^ 27) (hm : zobjAt (5, fsM (a + 31) ψ) 7 lnM μ (a + 31) h) (hy : h (a + 39) = lcell y) (hx : zExt a n h rf sn ρ κ) (hr : RR B β u v rf φ c sn ρ κ ψ μ L) {p0 p1 : Int32} : OPw l D base (B + 2000) a n (zTo h a β τ (nI u) (nI v) rf φ c π sn) yL_ways w_L_ways [.ref a, .int p0, .int p1, .ref (a + 39)] yX5_ways w_X5_ways [.ref (a + 31), .int p0, .int p1] := by
  have hu := hr.1
  have hv := hr.2.1
  have hs := hr.2.2.1
  have hz := hr.2.2.2.1
  by_cases f0 : inV p0 0 6 = 0
  · skip
    exact OPw_x (by decide) hm hy hx hr (by omega) (by omega) (WL_ways_x1 (by omega) (by omega) (by omega) To_o (c_X4_ways_x1 G f0)) (fun g n1 => c_X5_ways_x1 G f0)
  by_cases f1 : inV p1 0 6 = 0
  · skip
    exact OPw_x (by decide) hm hy hx hr (by omega) (by omega) (WL_ways_x1 (by omega) (by omega) (by omega) To_o (c_X4_ways_x2 G f0 f1)) (fun g n1 => c_X5_ways_x2 G f0 f1)
  obtain ⟨r, hr7, rfl⟩ := inV_ex (k := 6) (by decide) f0
  obtain ⟨q, hq6, rfl⟩ := inV_ex (k := 6) (by decide) f1
  have hC := c_X4_ways G (D := D) (base := base) (h := h) (n := n) (a := a) (β := β) (τ := τ) (rf := rf) (φ := φ) (c := c) (π := π) (sn := sn) (o := nI u) (s := nI v) (c1 := r) (p := q) (by omega) (by omega)
  rw [show cbrP (β 1) r π 0 q = wv (μ 0) r q from (cbr_cv (by omega)).trans (cv_wv hz.1 (by omega))] at hC
  exact OPw_l hm hx hr (by omega) (by omega) (WL_ways_ok (S := fun b m => b = zTo h a β (τ) (nI u) (nI v) rf φ c (cbrP (β 1) r π) sn ∧ m = n) (by omega) (by omega) (by omega) To_o hC (fun H1 n1 q => by rw [q.1]; exact ⟨y, (To_out (by omega)).trans hy⟩)) (fun g n1 => c_X5_ways G (by omega) (by omega)) (by simp (disch := omega) only [va_ne, vat]) (fun H1 n1 q => ⟨_, _, q.1, q.2⟩) (by simp (disch := omega) only [va_ne, vat]) (by simp (disch := omega) only [va_ne, vat]) (by simp (disch := omega) only [va_ne, vat]) (by first | rfl | simp (disch := omega) only [sane, saat]) (by first | rfl | simp (disch := omega) only [sane, saat]) (by first | rfl | simp (disch := omega) only [sane, saat]) (by first | rfl | simp (disch := omega) only [sane, saat])

theorem op_walked {l : Launch} {D : va_G} {base : Nat} (G : l.stackTraces = false) {B a n u v L : Nat} {h : zH} {β τ : zB} {rf : Nat → Option Nat} {φ : Nat → Int32} {c π : zB} {sn : Option Nat} {ρ : Nat → zB} {κ : zB} {ψ : Nat → Int32} {μ : zB} {y : Nat → Int64} (hB : B + 2000 < 2 ^ 27) (hm : zobjAt (5, fsM (a + 31) ψ) 7 lnM μ (a + 31) h) (hy : h (a + 39) = lcell y) (hx : zExt a n h rf sn ρ κ) (hr : RR B β u v rf φ c sn ρ κ ψ μ L) {p0 p1 : Int32} : OPw l D base (B + 2000) a n (zTo h a β τ (nI u) (nI v) rf φ c π sn) yL_walked w_L_walked [.ref a, .int p0, .int p1, .ref (a + 39)] yX5_walked w_X5_walked [.ref (a + 31), .int p0, .int p1] := by
  have hu := hr.1
  have hv := hr.2.1
  have hs := hr.2.2.1
  have hz := hr.2.2.2.1
  by_cases f0 : inV p0 0 6 = 0
  · skip
    exact OPw_x (by decide) hm hy hx hr (by omega) (by omega) (WL_walked_x1 (by omega) (by omega) (by omega) To_o (c_X4_walked_x1 G f0)) (fun g n1 => c_X5_walked_x1 G f0)
  by_cases f1 : inV p1 0 6 = 0
  · skip
    exact OPw_x (by decide) hm hy hx hr (by omega) (by omega) (WL_walked_x1 (by omega) (by omega) (by omega) To_o (c_X4_walked_x2 G f0 f1)) (fun g n1 => c_X5_walked_x2 G f0 f1)
  obtain ⟨r, hr7, rfl⟩ := inV_ex (k := 6) (by decide) f0
  obtain ⟨q, hq6, rfl⟩ := inV_ex (k := 6) (by decide) f1
  have hC := c_X4_walked G (D := D) (base := base) (h := h) (n := n) (a := a) (β := β) (τ := τ) (rf := rf) (φ := φ) (c := c) (π := π) (sn := sn) (o := nI u) (s := nI v) (c1 := r) (p := q) (by omega) (by omega)
  rw [show gawP (β 1) r π 1 q = wv (μ 0) r q from (gaw_gv (by omega) (by omega)).trans (gv_wv hz.1 (by omega) (by omega))] at hC
  exact OPw_l hm hx hr (by omega) (by omega) (WL_walked_ok (S := fun b m => b = zTo h a β (τ) (nI u) (nI v) rf φ c (gawP (β 1) r π) sn ∧ m = n) (by omega) (by omega) (by omega) To_o hC (fun H1 n1 q => by rw [q.1]; exact ⟨y, (To_out (by omega)).trans hy⟩)) (fun g n1 => c_X5_walked G (by omega) (by omega)) (by simp (disch := omega) only [va_ne, vat]) (fun H1 n1 q => ⟨_, _, q.1, q.2⟩) (by simp (disch := omega) only [va_ne, vat]) (by simp (disch := omega) only [va_ne, vat]) (by simp (disch := omega) only [va_ne, vat]) (by first | rfl | simp (disch := omega) only [sane, saat]) (by first | rfl | simp (disch := omega) only [sane, saat]) (by first | rfl | simp (disch := omega) only [sane, saat]) (by first | rfl | simp (disch := omega) only [sane, saat])

theorem op_ifLaunched {l : Launch} {D : va_G} {base : Nat} (G : l.stackTraces = false) {B a n u v L : Nat} {h : zH} {β τ : zB} {rf : Nat → Option Nat} {φ : Nat → Int32} {c π : zB} {sn : Option Nat} {ρ : Nat → zB} {κ : zB} {ψ : Nat → Int32} {μ : zB} {y : Nat → Int64} (hB : B + 2000 < 2 ^ 27) (hm : zobjAt (5, fsM (a + 31) ψ) 7 lnM μ (a + 31) h) (hy : h (a + 39) = lcell y) (hx : zExt a n h rf sn ρ κ) (hr : RR B β u v rf φ c sn ρ κ ψ μ L) {p0 p1 : Int32} : OPw l D base (B + 2000) a n (zTo h a β τ (nI u) (nI v) rf φ c π sn) yL_ifLaunched w_L_ifLaunched [.ref a, .int p0, .int p1, .ref (a + 39)] yX5_ifLaunched w_X5_ifLaunched [.ref (a + 31), .int p0, .int p1] := by
  have hu := hr.1
  have hv := hr.2.1
  have hs := hr.2.2.1
  have hz := hr.2.2.2.1
  by_cases f0 : inV p0 0 6 = 0
  · skip
    exact OPw_x (by decide) hm hy hx hr (by omega) (by omega) (WL_ifLaunched_x1 (by omega) (by omega) (by omega) To_o (c_X4_ifLaunched_x1 G f0)) (fun g n1 => c_X5_ifLaunched_x1 G f0)
  by_cases f1 : inV p1 0 3 = 0
  · skip
    exact OPw_x (by decide) hm hy hx hr (by omega) (by omega) (WL_ifLaunched_x2 (by omega) (by omega) (by omega) To_o (c_X4_ifLaunched_x2 G f0 f1)) (fun g n1 => c_X5_ifLaunched_x2 G f0 f1)
  obtain ⟨r, hr7, rfl⟩ := inV_ex (k := 6) (by decide) f0
  obtain ⟨q, hq6, rfl⟩ := inV_ex (k := 3) (by decide) f1
  have hC := c_X4_ifLaunched G (D := D) (base := base) (h := h) (n := n) (a := a) (β := β) (τ := τ) (rf := rf) (φ := φ) (c := c) (π := π) (sn := sn) (o := nI u) (s := nI v) hz.pin (c1 := r) (w := q) (by omega) (by omega)
  rw [show tdV (lchB (cpB τ β) r) β q = ldV (μ 0) r q from td_ld hz (by omega) (by omega)] at hC
  exact OPw_l hm hx hr (by omega) (by omega) (WL_ifLaunched_ok (S := fun b m => b = zTo h a β (lchB (cpB τ β) r) (nI u) (nI v) rf φ c (π) sn ∧ m = n) (by omega) (by omega) (by omega) To_o hC (fun H1 n1 q => by rw [q.1]; exact ⟨y, (To_out (by omega)).trans hy⟩)) (fun g n1 => c_X5_ifLaunched G hz.2.2.x hz.2.2.p (by omega) (by omega)) (by simp (disch := omega) only [va_ne, vat]) (fun H1 n1 q => ⟨_, _, q.1, q.2⟩) (by simp (disch := omega) only [va_ne, vat]) (by simp (disch := omega) only [va_ne, vat]) (by simp (disch := omega) only [va_ne, vat]) (by first | rfl | simp (disch := omega) only [sane, saat]) (by first | rfl | simp (disch := omega) only [sane, saat]) (by first | rfl | simp (disch := omega) only [sane, saat]) (by first | rfl | simp (disch := omega) only [sane, saat])

theorem op_untilOpen {l : Launch} {D : va_G} {base : Nat} (G : l.stackTraces = false) {B a n u v L : Nat} {h : zH} {β τ : zB} {rf : Nat → Option Nat} {φ : Nat → Int32} {c π : zB} {sn : Option Nat} {ρ : Nat → zB} {κ : zB} {ψ : Nat → Int32} {μ : zB} {y : Nat → Int64} (hB : B + 2000 < 2 ^ 27) (hm : zobjAt (5, fsM (a + 31) ψ) 7 lnM μ (a + 31) h) (hy : h (a + 39) = lcell y) (hx : zExt a n h rf sn ρ κ) (hr : RR B β u v rf φ c sn ρ κ ψ μ L) {p0 : Int32} : OPw l D base (B + 2000) a n (zTo h a β τ (nI u) (nI v) rf φ c π sn) yL_untilOpen w_L_untilOpen [.ref a, .int p0, .ref (a + 39)] yX5_untilOpen w_X5_untilOpen [.ref (a + 31), .int p0] := by
  have hu := hr.1
  have hv := hr.2.1
  have hs := hr.2.2.1
  have hz := hr.2.2.2.1
  by_cases f0 : inV p0 0 6 = 0
  · skip
    exact OPw_x (by decide) hm hy hx hr (by omega) (by omega) (WL_untilOpen_x1 (by omega) (by omega) (by omega) To_o (c_X4_untilOpen_x1 G f0)) (fun g n1 => c_X5_untilOpen_x1 G f0)
  obtain ⟨r, hr7, rfl⟩ := inV_ex (k := 6) (by decide) f0
  have hC := c_X4_untilOpen G (D := D) (base := base) (h := h) (n := n) (a := a) (β := β) (τ := τ) (rf := rf) (φ := φ) (c := c) (π := π) (sn := sn) (o := nI u) (s := nI v) hz.pin (c1 := r) (by omega)
  rw [show tuV β τ r = ltV (μ 0) r from tu_lt hz (by omega)] at hC
  exact OPw_l hm hx hr (by omega) (by omega) (WL_untilOpen_ok  (by omega) (by omega) (by omega) To_o hC (fun H1 n1 q => by obtain ⟨τ2, e, -⟩ := q; rw [e]; exact ⟨y, (To_out (by omega)).trans hy⟩)) (fun g n1 => c_X5_untilOpen G hz.2.2.x hz.2.2.p (by omega)) (by simp (disch := omega) only [va_ne, vat]) (fun H1 n1 q => by obtain ⟨τ2, e, e2⟩ := q; exact ⟨_, _, e, e2⟩) (by simp (disch := omega) only [va_ne, vat]) (by simp (disch := omega) only [va_ne, vat]) (by simp (disch := omega) only [va_ne, vat]) (by first | rfl | simp (disch := omega) only [sane, saat]) (by first | rfl | simp (disch := omega) only [sane, saat]) (by first | rfl | simp (disch := omega) only [sane, saat]) (by first | rfl | simp (disch := omega) only [sane, saat])

