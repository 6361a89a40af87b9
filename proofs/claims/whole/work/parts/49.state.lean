/-! The law's state: the object, the reference, the long array, and what ties them -/
def HR (B u v : Nat) (rf : Nat → Option Nat) (ρ : Nat → zB) (sv : Nat → Int32) : Prop := ∀ i, i < v → rf ((u + i) % 6) ≠ none ∧ RB B (ρ ((u + i) % 6)) (fun k => sv (175 * i + k))
def RR (B : Nat) (β : zB) (u v : Nat) (rf : Nat → Option Nat) (φ : Nat → Int32) (c : zB) (sn : Option Nat) (ρ : Nat → zB) (κ : zB) (ψ : Nat → Int32) (μ : zB) (L : Nat) : Prop :=
  u < 6 ∧ v ≤ 6 ∧ ψ 1 = nI v ∧ RB B β (μ 0) ∧ HR B u v rf ρ (μ 2) ∧ ((sn = none ∧ ψ 2 = 0) ∨ (sn ≠ none ∧ ¬ ψ 2 = 0 ∧ RB B κ (μ 3))) ∧ φ 0 = nI L ∧ ψ 3 = nI L ∧ L ≤ 60 ∧ c 0 = μ 4 ∧ ∃ Q, chr (μ 4) Q
theorem HR.mono {B C u v : Nat} {rf : Nat → Option Nat} {ρ : Nat → zB} {sv : Nat → Int32} (h : HR B u v rf ρ sv) (hBC : B ≤ C) : HR C u v rf ρ sv := fun i hi => ⟨(h i hi).1, (h i hi).2.mono hBC⟩
theorem sn_mono {B C : Nat} {sn : Option Nat} {x : Int32} {κ : zB} {z : zZ} (h : (sn = none ∧ x = 0) ∨ (sn ≠ none ∧ ¬ x = 0 ∧ RB B κ z)) (hBC : B ≤ C) : (sn = none ∧ x = 0) ∨ (sn ≠ none ∧ ¬ x = 0 ∧ RB C κ z) := h.imp id fun q => ⟨q.1, q.2.1, q.2.2.mono hBC⟩
def uK (u v : Nat) : Nat := if v < 6 then u else (u + 1) % 6
theorem uK_lt {u v : Nat} (hu : u < 6) : uK u v < 6 := by unfold uK; split <;> omega
theorem recK_le {v : Nat} (hv : v ≤ 6) : recK v ≤ 6 := by unfold recK; split <;> omega
theorem sv_o (u v : Nat) : (if v < 6 then nI u else nI ((u + 1) % 6)) = nI (uK u v) := by unfold uK; split <;> rfl
theorem sv_s {v : Nat} (hv : v ≤ 6) : (if v < 6 then nI (v + 1) else nI v) = nI (recK v) := by
  unfold recK
  by_cases c : v < 6
  · rw [if_pos c, if_neg (by omega)]
  · rw [if_neg c, if_pos (by omega), show v = 6 by omega]
theorem HR_save {B C u v : Nat} {rf rf2 : Nat → Option Nat} {ρ : Nat → zB} {sv : Nat → Int32} {α β : zB} {z : zZ} (h : HR B u v rf ρ sv) (hBC : B ≤ C) (hu : u < 6) (hv : v ≤ 6) (hz : RB C β z) (hJ : rf2 ((u + v) % 6) ≠ none) (hk : ∀ j, rf j ≠ none → rf2 j ≠ none) : HR C (uK u v) (recK v) rf2 (fun j => if j = (u + v) % 6 then cpB α β else ρ j) (recF sv z v) := by
  intro i hi
  by_cases c : v < 6
  · have e1 : uK u v = u := if_pos c
    have e2 : recK v = v + 1 := if_neg (by omega)
    have e3 : recF sv z v = cpO sv z (175 * v) 175 := if_neg (by omega)
    rw [e1, e3]
    rw [e2] at hi
    dsimp only
    by_cases c2 : i = v
    · subst c2
      rw [if_pos rfl]
      refine ⟨hJ, RB_z (RB_cp hz) (fun k hk => ?_)⟩
      unfold cpO
      rw [if_pos (by omega), show 175 * i + k - 175 * i = k by omega]
    · rw [if_neg (by omega)]
      refine ⟨hk _ (h i (by omega)).1, RB_z ((h i (by omega)).2.mono hBC) (fun k hk => ?_)⟩
      unfold cpO
      rw [if_neg (by omega)]
  · have e0 : v = 6 := by omega
    subst e0
    have e1 : uK u 6 = (u + 1) % 6 := if_neg (by omega)
    have e2 : recK 6 = 6 := rfl
    have e3 : recF sv z 6 = cpO (cpF sv sv 175 875) z 875 175 := rfl
    rw [e1, e3]
    rw [e2] at hi
    dsimp only
    by_cases c2 : i = 5
    · subst c2
      rw [if_pos (by omega), show ((u + 1) % 6 + 5) % 6 = (u + 6) % 6 by omega]
      refine ⟨hJ, RB_z (RB_cp hz) (fun k hk => ?_)⟩
      unfold cpO
      rw [if_pos (by omega), show 175 * 5 + k - 875 = k by omega]
    · rw [if_neg (by omega), show ((u + 1) % 6 + i) % 6 = (u + (i + 1)) % 6 by omega]
      refine ⟨hk _ (h (i + 1) (by omega)).1, RB_z ((h (i + 1) (by omega)).2.mono hBC) (fun k hk => ?_)⟩
      unfold cpO cpF
      rw [if_neg (by omega), if_pos (by omega), show 175 + (175 * i + k) = 175 * (i + 1) + k by omega]
theorem To_z {h : zH} {a : Nat} {β τ : zB} {o s : Int32} {rf : Nat → Option Nat} {φ : Nat → Int32} {c π : zB} {sn : Option Nat} {q : Nat} {x : zC} (hq : a + 30 < q) : zput (zTo h a β τ o s rf φ c π sn) q x = zTo (zput h q x) a β τ o s rf φ c π sn := by
  funext p
  by_cases e : p = q
  · subst e
    rw [To_out (Or.inr hq), zput_at, zput_at]
  · rw [zput_ne e]
    exact To_q (zobj_cg (zobj_cg (zobj_cg (zobj_cg (zput_ne e).symm))))
theorem zExt_loc {a n : Nat} {h g : zH} {rf : Nat → Option Nat} {sn : Option Nat} {ρ : Nat → zB} {κ : zB} (hx : zExt a n h rf sn ρ κ) (hq : ∀ q, a + 40 ≤ q → g q = h q) : zExt a n g rf sn ρ κ := by
  obtain ⟨h1, h2, h3, h4⟩ := hx
  refine ⟨h1, fun j q hj hr => ?_, h3, fun q hr => ?_⟩
  · obtain ⟨i1, i2, i3⟩ := h2 j q hj hr
    exact ⟨i1, i2, i3.kept (fun p p1 p2 => hq p (by omega))⟩
  · obtain ⟨i1, i2, i3, i4⟩ := h4 q hr
    exact ⟨i1, i2, i3.kept (fun p p1 p2 => hq p (by omega)), i4⟩
def ST (B a n : Nat) (H : zH) : Prop := ∃ (h : zH) (β τ : zB) (u v : Nat) (rf : Nat → Option Nat) (φ : Nat → Int32) (c π : zB) (sn : Option Nat) (ρ : Nat → zB) (κ : zB) (ψ : Nat → Int32) (μ : zB) (L : Nat) (y : Nat → Int64),
  H = zTo h a β τ (nI u) (nI v) rf φ c π sn ∧ zobjAt (5, fsM (a + 31) ψ) 7 lnM μ (a + 31) h ∧ h (a + 39) = lcell y ∧ zExt a n h rf sn ρ κ ∧ RR B β u v rf φ c sn ρ κ ψ μ L
theorem ST_fin {B a n u v L : Nat} {g : zH} {β τ : zB} {rf : Nat → Option Nat} {φ : Nat → Int32} {c π : zB} {sn : Option Nat} {ρ : Nat → zB} {κ : zB} {ψ : Nat → Int32} {μ : zB} {y : Nat → Int64} (hx : zExt a n g rf sn ρ κ) (hy : g (a + 39) = lcell y) (hr : RR B β u v rf φ c sn ρ κ ψ μ L) : ST B a n (setM (zTo g a β τ (nI u) (nI v) rf φ c π sn) (a + 31) ψ μ) :=
  ⟨setM g (a + 31) ψ μ, β, τ, u, v, rf, φ, c, π, sn, ρ, κ, ψ, μ, L, y, To_xs (by omega), zobjAt.mk, (zobj_out (by omega)).trans hy, zExt_loc hx (fun q hq => zobj_out (by omega)), hr⟩
/-- one operation: the wrapper's call, the reference's call, and what is compared -/
def OPw (l : Launch) (D : va_G) (base B a n : Nat) (H : zH) (yL : MethodName) (wL : Cond) (AsL : List Value) (yM : MethodName) (wM : Cond) (AsM : List Value) : Prop :=
  ∃ (k r : Int32) (S1 : zH → Nat → Prop), zCt l D base 14 yL wL AsL H n 11 235 (zRT (some (.int k)) S1) ∧ ∀ H1 n1, n ≤ n1 → S1 H1 n1 → (∃ fs, H1 (a + 31) = some (.inr (5, fs))) ∧ ∃ (dd : Nat) (S2 : zH → Nat → Prop), dd ≤ 14 ∧ zCt l D base dd yM wM AsM H1 n1 0 0 (zRT (some (.int r)) S2) ∧
    ∀ H2 n2, n1 ≤ n2 → S2 H2 n2 → (∃ g ψ μ, H2 = setM g (a + 31) ψ μ ∧ ψ 0 = k) ∧ (∃ y, H2 (a + 39) = lcell y ∧ (k = 0 → y 0 = Int32.toInt64 r)) ∧ ST B a n2 H2
/-- the same without a wrapper -/
def OPd (l : Launch) (D : va_G) (base B a n : Nat) (H : zH) (r : Value) (yX : MethodName) (wX : Cond) (yM : MethodName) (wM : Cond) : Prop :=
  ∃ (dd mc ms : Nat) (S1 : zH → Nat → Prop), dd ≤ 13 ∧ mc ≤ 11 ∧ ms ≤ 235 ∧ zCt l D base dd yX wX [.ref a] H n mc ms (zRT (some r) S1) ∧ ∀ H1 n1, n ≤ n1 → S1 H1 n1 → (∃ fs, H1 (a + 31) = some (.inr (5, fs))) ∧ ∃ (d2 : Nat) (S2 : zH → Nat → Prop), d2 ≤ 14 ∧ zCt l D base d2 yM wM [.ref (a + 31)] H1 n1 0 0 (zRT (some r) S2) ∧
    ∀ H2 n2, n1 ≤ n2 → S2 H2 n2 → ST B a n2 H2
theorem RR.mono {B C : Nat} {β : zB} {u v : Nat} {rf : Nat → Option Nat} {φ : Nat → Int32} {c : zB} {sn : Option Nat} {ρ : Nat → zB} {κ : zB} {ψ : Nat → Int32} {μ : zB} {L : Nat} (h : RR B β u v rf φ c sn ρ κ ψ μ L) (hBC : B ≤ C) : RR C β u v rf φ c sn ρ κ ψ μ L := by
  obtain ⟨h1, h2, h3, h4, h5, h6, h7⟩ := h
  exact ⟨h1, h2, h3, h4.mono hBC, h5.mono hBC, sn_mono h6 hBC, h7⟩
section OP
variable {l : Launch} {D : va_G} {base B C a n u v L dd : Nat} {h : zH} {β τ : zB} {rf : Nat → Option Nat} {φ : Nat → Int32} {c π : zB} {sn : Option Nat} {ρ : Nat → zB} {κ : zB} {ψ ψ2 : Nat → Int32} {μ μ2 : zB} {y : Nat → Int64} {yL yM : MethodName} {wL wM : Cond} {AsL AsM : List Value} {r : Int32} {S : zH → Nat → Prop}
/-- it throws: nothing changes but what the reference calls thrown -/
theorem OPw_xg {k : Int32} (hk : ¬ k = 0) (hm : zobjAt (5, fsM (a + 31) ψ) 7 lnM μ (a + 31) h) (hy : h (a + 39) = lcell y) (hx : zExt a n h rf sn ρ κ) (hr : RR B β u v rf φ c sn ρ κ ψ μ L) (hBC : B ≤ C) (hd : dd ≤ 14)
    (hW : zCt l D base 14 yL wL AsL (zTo h a β τ (nI u) (nI v) rf φ c π sn) n 11 235 (zRT (some (.int k)) (fun H2 n2 => H2 = zTo h a β τ (nI u) (nI v) rf φ c π sn ∧ n ≤ n2)))
    (hM : ∀ (g : zH) (n1 : Nat), zCt l D base dd yM wM AsM (setM g (a + 31) ψ μ) n1 0 0 (zR (some (.int 0)) (setM g (a + 31) ψ2 μ) n1)) (e0 : ψ2 0 = k) (e1 : ψ2 1 = ψ 1) (e2 : ψ2 2 = ψ 2) (e3 : ψ2 3 = ψ 3) :
    OPw l D base C a n (zTo h a β τ (nI u) (nI v) rf φ c π sn) yL wL AsL yM wM AsM := by
  refine ⟨k, 0, _, hW, fun H1 n1 hn hs => ?_⟩
  obtain ⟨rfl, -⟩ := hs
  have e : setM (zTo h a β τ (nI u) (nI v) rf φ c π sn) (a + 31) ψ μ = zTo h a β τ (nI u) (nI v) rf φ c π sn := (To_xa hm (by omega)).set
  have hM1 := hM (zTo h a β τ (nI u) (nI v) rf φ c π sn) n1
  rw [e] at hM1
  refine ⟨⟨_, (To_xa hm (by omega)).1⟩, dd, (fun b m => b = setM (zTo h a β τ (nI u) (nI v) rf φ c π sn) (a + 31) ψ2 μ ∧ m = n1), hd, hM1, fun H2 n2 hn2 hs2 => ?_⟩
  obtain ⟨rfl, rfl⟩ := hs2
  refine ⟨⟨_, _, _, rfl, e0⟩, ⟨y, (zobj_out (by omega)).trans ((To_out (by omega)).trans hy), fun q => absurd q hk⟩, ST_fin (L := L) (hx.mono hn) hy ?_⟩
  unfold RR
  rw [e1, e2, e3]
  exact hr.mono hBC
theorem OPw_x {k : Int32} (hk : ¬ k = 0) (hm : zobjAt (5, fsM (a + 31) ψ) 7 lnM μ (a + 31) h) (hy : h (a + 39) = lcell y) (hx : zExt a n h rf sn ρ κ) (hr : RR B β u v rf φ c sn ρ κ ψ μ L) (hBC : B ≤ C) (hd : dd ≤ 14)
    (hW : zCt l D base 14 yL wL AsL (zTo h a β τ (nI u) (nI v) rf φ c π sn) n 11 235 (zRT (some (.int k)) (fun H2 n2 => H2 = zTo h a β τ (nI u) (nI v) rf φ c π sn ∧ n ≤ n2)))
    (hM : ∀ (g : zH) (n1 : Nat), zCt l D base dd yM wM AsM (setM g (a + 31) ψ μ) n1 0 0 (zR (some (.int 0)) (setM g (a + 31) (va_up ψ 0 k) μ) n1)) :
    OPw l D base C a n (zTo h a β τ (nI u) (nI v) rf φ c π sn) yL wL AsL yM wM AsM :=
  OPw_xg hk hm hy hx hr hBC hd hW hM (va_up_self _ _ _) (va_ne (by omega)) (va_ne (by omega)) (va_ne (by omega))
/-- it returns -/
theorem OPw_g (hm : zobjAt (5, fsM (a + 31) ψ) 7 lnM μ (a + 31) h) (hd : dd ≤ 14)
    (hW : zCt l D base 14 yL wL AsL (zTo h a β τ (nI u) (nI v) rf φ c π sn) n 11 235 (zRT (some (.int 0)) (fun H2 n2 => ∃ H1 y, S H1 n2 ∧ H1 (a + 39) = lcell y ∧ H2 = zput H1 (a + 39) (lcell (va_up y 0 (Int32.toInt64 r))))))
    (hM : ∀ (g : zH) (n1 : Nat), zCt l D base dd yM wM AsM (setM g (a + 31) ψ μ) n1 0 0 (zR (some (.int r)) (setM g (a + 31) ψ2 μ2) n1)) (e0 : ψ2 0 = 0)
    (hS : ∀ H1 n1, n ≤ n1 → S H1 n1 → ∃ (h2 : zH) (β2 τ2 : zB) (u2 v2 : Nat) (rf2 : Nat → Option Nat) (φ2 : Nat → Int32) (c2 π2 : zB) (sn2 : Option Nat) (ρ2 : Nat → zB) (κ2 : zB) (L2 : Nat), H1 = zTo h2 a β2 τ2 (nI u2) (nI v2) rf2 φ2 c2 π2 sn2 ∧ (∀ q, q < a + 40 → h2 q = h q) ∧ zExt a n1 h2 rf2 sn2 ρ2 κ2 ∧ RR C β2 u2 v2 rf2 φ2 c2 sn2 ρ2 κ2 ψ2 μ2 L2) :
    OPw l D base C a n (zTo h a β τ (nI u) (nI v) rf φ c π sn) yL wL AsL yM wM AsM := by
  refine ⟨0, r, _, hW, fun H1 n1 hn hs => ?_⟩
  obtain ⟨H0, y0, hs0, hy0, rfl⟩ := hs
  obtain ⟨h2, β2, τ2, u2, v2, rf2, φ2, c2, π2, sn2, ρ2, κ2, L2, rfl, k2, k3, k4⟩ := hS _ _ hn hs0
  rw [To_z (by omega)]
  have hm2 : zobjAt (5, fsM (a + 31) ψ) 7 lnM μ (a + 31) (zput h2 (a + 39) (lcell (va_up y0 0 (Int32.toInt64 r)))) := hm.kept (fun q q1 q2 => (zput_ne (by omega)).trans (k2 q (by omega)))
  have hM1 := hM (zTo (zput h2 (a + 39) (lcell (va_up y0 0 (Int32.toInt64 r)))) a β2 τ2 (nI u2) (nI v2) rf2 φ2 c2 π2 sn2) n1
  have hm3 : zobjAt (5, fsM (a + 31) ψ) 7 lnM μ (a + 31) (zTo (zput h2 (a + 39) (lcell (va_up y0 0 (Int32.toInt64 r)))) a β2 τ2 (nI u2) (nI v2) rf2 φ2 c2 π2 sn2) := To_xa hm2 (by omega)
  have e9 : setM (zTo (zput h2 (a + 39) (lcell (va_up y0 0 (Int32.toInt64 r)))) a β2 τ2 (nI u2) (nI v2) rf2 φ2 c2 π2 sn2) (a + 31) ψ μ = (zTo (zput h2 (a + 39) (lcell (va_up y0 0 (Int32.toInt64 r)))) a β2 τ2 (nI u2) (nI v2) rf2 φ2 c2 π2 sn2) := hm3.set
  rw [e9] at hM1
  refine ⟨⟨_, hm3.1⟩, dd, (fun b m => b = setM (zTo (zput h2 (a + 39) (lcell (va_up y0 0 (Int32.toInt64 r)))) a β2 τ2 (nI u2) (nI v2) rf2 φ2 c2 π2 sn2) (a + 31) ψ2 μ2 ∧ m = n1), hd, hM1, fun H2 n2 hn2 hs2 => ?_⟩
  obtain ⟨rfl, rfl⟩ := hs2
  refine ⟨⟨_, _, _, rfl, e0⟩, ⟨_, (zobj_out (by omega)).trans ((To_out (by omega)).trans zput_at), fun _ => va_up_self _ _ _⟩, ST_fin (L := L2) (zExt_loc k3 (fun q hq => zput_ne (by omega))) zput_at k4⟩
/-- what is told of an end that only looks -/
def lookS (h : zH) (a n : Nat) (β : zB) (u v : Nat) (rf : Nat → Option Nat) (φ : Nat → Int32) (c : zB) (sn : Option Nat) (S : zH → Nat → Prop) : Prop := ∀ H1 n1, S H1 n1 → ∃ τ2 π2, H1 = zTo h a β τ2 (nI u) (nI v) rf φ c π2 sn ∧ n1 = n
theorem RR_look (hr : RR B β u v rf φ c sn ρ κ ψ μ L) (hBC : B ≤ C) (e1 : ψ2 1 = ψ 1) (e2 : ψ2 2 = ψ 2) (e3 : ψ2 3 = ψ 3) (m0 : μ2 0 = μ 0) (m2 : μ2 2 = μ 2) (m3 : μ2 3 = μ 3) (m4 : μ2 4 = μ 4) : RR C β u v rf φ c sn ρ κ ψ2 μ2 L := by
  unfold RR
  rw [e1, e2, e3, m0, m2, m3, m4]
  exact hr.mono hBC
theorem OPw_l (hm : zobjAt (5, fsM (a + 31) ψ) 7 lnM μ (a + 31) h) (hx : zExt a n h rf sn ρ κ) (hr : RR B β u v rf φ c sn ρ κ ψ μ L) (hBC : B ≤ C) (hd : dd ≤ 14)
    (hW : zCt l D base 14 yL wL AsL (zTo h a β τ (nI u) (nI v) rf φ c π sn) n 11 235 (zRT (some (.int 0)) (fun H2 n2 => ∃ H1 y, S H1 n2 ∧ H1 (a + 39) = lcell y ∧ H2 = zput H1 (a + 39) (lcell (va_up y 0 (Int32.toInt64 r))))))
    (hM : ∀ (g : zH) (n1 : Nat), zCt l D base dd yM wM AsM (setM g (a + 31) ψ μ) n1 0 0 (zR (some (.int r)) (setM g (a + 31) ψ2 μ2) n1)) (e0 : ψ2 0 = 0)
    (hS : lookS h a n β u v rf φ c sn S) (e1 : ψ2 1 = ψ 1) (e2 : ψ2 2 = ψ 2) (e3 : ψ2 3 = ψ 3) (m0 : μ2 0 = μ 0) (m2 : μ2 2 = μ 2) (m3 : μ2 3 = μ 3) (m4 : μ2 4 = μ 4) :
    OPw l D base C a n (zTo h a β τ (nI u) (nI v) rf φ c π sn) yL wL AsL yM wM AsM :=
  OPw_g hm hd hW hM e0 (fun H1 n1 hn hs => by
    obtain ⟨τ2, π2, e, rfl⟩ := hS H1 n1 hs
    exact ⟨h, β, τ2, u, v, rf, φ, c, π2, sn, ρ, κ, L, e, fun _ _ => rfl, hx, RR_look hr hBC e1 e2 e3 m0 m2 m3 m4⟩)
/-- what is told of an end that saves first -/
def saveS (h : zH) (a n : Nat) (β β2 τ : zB) (u v : Nat) (rf : Nat → Option Nat) (φ2 : Nat → Int32) (c π : zB) (sn : Option Nat) (ρ : Nat → zB) (κ : zB) (S : zH → Nat → Prop) : Prop := ∀ H1 n1, S H1 n1 → ∃ h2 rf2, H1 = zTo h2 a β2 τ (if v < 6 then nI u else nI ((u + 1) % 6)) (if v < 6 then nI (v + 1) else nI v) rf2 φ2 c π sn ∧ zSv a n h rf sn ρ κ ((u + v) % 6) β h2 rf2 n1
theorem OPw_s {β2 : zB} {φ2 : Nat → Int32} {L2 : Nat} (hm : zobjAt (5, fsM (a + 31) ψ) 7 lnM μ (a + 31) h) (hr : RR B β u v rf φ c sn ρ κ ψ μ L) (hBC : B ≤ C) (hd : dd ≤ 14)
    (hW : zCt l D base 14 yL wL AsL (zTo h a β τ (nI u) (nI v) rf φ c π sn) n 11 235 (zRT (some (.int 0)) (fun H2 n2 => ∃ H1 y, S H1 n2 ∧ H1 (a + 39) = lcell y ∧ H2 = zput H1 (a + 39) (lcell (va_up y 0 (Int32.toInt64 r))))))
    (hM : ∀ (g : zH) (n1 : Nat), zCt l D base dd yM wM AsM (setM g (a + 31) ψ μ) n1 0 0 (zR (some (.int r)) (setM g (a + 31) ψ2 μ2) n1)) (e0 : ψ2 0 = 0)
    (hS : saveS h a n β β2 τ u v rf φ2 c π sn ρ κ S) (e1 : ψ2 1 = nI (recK v)) (e2 : ψ2 2 = ψ 2) (m2 : μ2 2 = recF (μ 2) (μ 0) v) (m3 : μ2 3 = μ 3) (m4 : μ2 4 = μ 4) (hR : RB C β2 (μ2 0)) (f0 : φ2 0 = nI L2) (e3 : ψ2 3 = nI L2) (hL2 : L2 ≤ 60) :
    OPw l D base C a n (zTo h a β τ (nI u) (nI v) rf φ c π sn) yL wL AsL yM wM AsM :=
  OPw_g hm hd hW hM e0 (fun H1 n1 hn hs => by
    obtain ⟨h1, h2, h3, h4, h5, h6, h7, h8, h9, h10, h11⟩ := hr
    obtain ⟨g, rf2, e, k1, k2, k3, α, k4⟩ := hS H1 n1 hs
    rw [sv_o, sv_s h2] at e
    exact ⟨g, β2, τ, uK u v, recK v, rf2, φ2, c, π, sn, _, κ, L2, e, k1, k4, uK_lt h1, recK_le h2, e1, hR, by rw [m2]; exact HR_save h5 hBC h1 h2 (h4.mono hBC) k2 k3, by rw [e2, m3]; exact sn_mono h6 hBC, f0, e3, hL2, by rw [m4]; exact h10, by rw [m4]; exact h11⟩)
end OP
