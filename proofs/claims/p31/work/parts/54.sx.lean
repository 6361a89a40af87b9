/-! The law's state: the object, the law's arrays, and the row that ties them -/
theorem lowL_N (v : Int32) {m : Nat} {M : Int32} (hM : M = nI m) (h1 : 0 < m) (h2 : m < 2 ^ 31) : ∃ w, w < m ∧ lowL v M = nI w := by
  have e : ∃ q, q < 2 ^ 31 ∧ v &&& 2147483647 = nI q := by
    refine ⟨v.toBitVec.toNat % 2 ^ 31, Nat.mod_lt _ (by decide), ?_⟩
    apply Int32.toBitVec_inj.mp
    show v.toBitVec &&& 2147483647#32 = BitVec.ofNat 32 (v.toBitVec.toNat % 2 ^ 31)
    apply BitVec.eq_of_toNat_eq
    rw [BitVec.toNat_and, BitVec.toNat_ofNat]
    show v.toBitVec.toNat &&& (2 ^ 31 - 1) = _
    rw [Nat.and_two_pow_sub_one_eq_mod]
    show _ = v.toBitVec.toNat % 2 ^ 31 % 2 ^ 32
    omega
  obtain ⟨q, hq, e⟩ := e
  refine ⟨q % m, Nat.mod_lt _ h1, ?_⟩
  unfold lowL
  rw [e, hM]
  exact nI_modL hq h2
theorem and_N (v : Int32) : ∃ q, q < 2 ^ 31 ∧ v &&& 2147483647 = nI q := by
  refine ⟨v.toBitVec.toNat % 2 ^ 31, Nat.mod_lt _ (by decide), ?_⟩
  apply Int32.toBitVec_inj.mp
  show v.toBitVec &&& 2147483647#32 = BitVec.ofNat 32 (v.toBitVec.toNat % 2 ^ 31)
  apply BitVec.eq_of_toNat_eq
  rw [BitVec.toNat_and, BitVec.toNat_ofNat]
  show v.toBitVec.toNat &&& (2 ^ 31 - 1) = _
  rw [Nat.and_two_pow_sub_one_eq_mod]
  show _ = v.toBitVec.toNat % 2 ^ 31 % 2 ^ 32
  omega
def uK (u v : Nat) : Nat := if v < 6 then u else (u + 1) % 6
def vK (v : Nat) : Nat := if v < 6 then v + 1 else v
theorem uK_lt {u v : Nat} (hu : u < 6) : uK u v < 6 := by unfold uK; split <;> omega
theorem vK_le {v : Nat} (hv : v ≤ 6) : vK v ≤ 6 := by unfold vK; split <;> omega
theorem sv_o (u v : Nat) : (if v < 6 then nI u else nI ((u + 1) % 6)) = nI (uK u v) := by unfold uK; split <;> rfl
theorem sv_s (v : Nat) : (if v < 6 then nI (v + 1) else nI v) = nI (vK v) := by unfold vK; split <;> rfl
abbrev ar (N : Nat) (f : Nat → Int32) : zC := some (.inl (N, .inl f))
/-- the law's arrays in h -/
def LA (a : Nat) (h : zH) (g pins k t : Nat → Int32) : Prop := h (a + 31) = ar 19 g ∧ h (a + 32) = ar 56 pins ∧ h (a + 33) = ar 35 k ∧ h (a + 34) = ar 8 t
/-- the row that ties the board and the law's arrays -/
def VV (B : Nat) (β : zB) (g pins k t : Nat → Int32) : Prop := ∃ z, RB B β z ∧ VI z ∧ VG z g ∧ VP z pins ∧ VK z k ∧ VT z t
def SX (B a n : Nat) (H : zH) : Prop := ∃ (h : zH) (β τ : zB) (u v : Nat) (rf : Nat → Option Nat) (φ : Nat → Int32) (c π : zB) (sn : Option Nat) (ρ : Nat → zB) (κ : zB) (g pins k t : Nat → Int32), H = zTo h a β τ (nI u) (nI v) rf φ c π sn ∧ u < 6 ∧ v ≤ 6 ∧ zExt a n h rf sn ρ κ ∧ LA a h g pins k t ∧ VV B β g pins k t
theorem zExt_loc {a n : Nat} {h g : zH} {rf : Nat → Option Nat} {sn : Option Nat} {ρ : Nat → zB} {κ : zB} (hx : zExt a n h rf sn ρ κ) (hq : ∀ q, a + 35 ≤ q → g q = h q) : zExt a n g rf sn ρ κ := by
  obtain ⟨h1, h2, h3, h4⟩ := hx
  refine ⟨h1, fun j q hj hr => ?_, h3, fun q hr => ?_⟩
  · obtain ⟨i1, i2, i3⟩ := h2 j q hj hr
    exact ⟨i1, i2, i3.kept (fun p p1 p2 => hq p (by omega))⟩
  · obtain ⟨i1, i2, i3, i4⟩ := h4 q hr
    exact ⟨i1, i2, i3.kept (fun p p1 p2 => hq p (by omega)), i4⟩
theorem zExt_lo {a n : Nat} {h g : zH} {rf : Nat → Option Nat} {sn : Option Nat} {ρ : Nat → zB} {κ : zB} (hx : zExt a n h rf sn ρ κ) (hq : ∀ q, q < n → g q = h q) : zExt a n g rf sn ρ κ := by
  obtain ⟨h1, h2, h3, h4⟩ := hx
  refine ⟨h1, fun j q hj hr => ?_, h3, fun q hr => ?_⟩
  · obtain ⟨i1, i2, i3⟩ := h2 j q hj hr
    exact ⟨i1, i2, i3.kept (fun p p1 p2 => hq p (by omega))⟩
  · obtain ⟨i1, i2, i3, i4⟩ := h4 q hr
    exact ⟨i1, i2, i3.kept (fun p p1 p2 => hq p (by omega)), i4⟩
theorem LA.of {a : Nat} {h h2 : zH} {g pins k t : Nat → Int32} (hL : LA a h g pins k t) (hq : ∀ q, q < a + 35 → h2 q = h q) : LA a h2 g pins k t :=
  ⟨(hq _ (by omega)).trans hL.1, (hq _ (by omega)).trans hL.2.1, (hq _ (by omega)).trans hL.2.2.1, (hq _ (by omega)).trans hL.2.2.2⟩
/-- behind a call that saves -/
theorem SX_s {B a n n2 n3 u v : Nat} {h1 h2 : zH} {β β2 τ : zB} {rf rf2 : Nat → Option Nat} {φ : Nat → Int32} {c π : zB} {sn : Option Nat} {ρ : Nat → zB} {κ : zB} {g pins k t : Nat → Int32} (hu : u < 6) (hv : v ≤ 6) (hs : zSv a n h1 rf sn ρ κ ((u + v) % 6) β h2 rf2 n2) (hn : n2 ≤ n3) (hL : LA a h1 g pins k t) (hV : VV B β2 g pins k t) :
    SX B a n3 (zTo h2 a β2 τ (if v < 6 then nI u else nI ((u + 1) % 6)) (if v < 6 then nI (v + 1) else nI v) rf2 φ c π sn) := by
  obtain ⟨k1, k2, k3, α, k4⟩ := hs
  rw [sv_o, sv_s]
  exact ⟨h2, β2, τ, uK u v, vK v, rf2, φ, c, π, sn, _, κ, g, pins, k, t, rfl, uK_lt hu, vK_le hv, k4.mono hn, hL.of k1, hV⟩
/-! the deeds on the row -/
theorem VV_bend {B : Nat} {β : zB} {z : zZ} {g pins k t : Nat → Int32} (hR : RB B β z) (hI : VI z) (vg : VG z g) (vp : VP z pins) (vk : VK z k) (vt : VT z t) {r c1 : Nat} {x : Int32} (hr : r < 8) (hc : c1 < 7) (hx : x = 0 ∨ x = 1 ∨ x = -1) :
    VV (B + 1) (bendB β (r * 7 + c1) (bpC z 56) x) g (va_up pins ((7 * r) + c1) x) k t := by
  have hi : r * 7 + c1 < 56 := by omega
  have e : ∀ j, ¬ (20 ≤ j ∧ j < 132) → j ≠ 16 → bendZ z (r * 7 + c1) x j = z j := fun j h1 h2 => by
    unfold bendZ
    repeat' split
    all_goals simp (disch := omega) only [va_ne]
  have ep : ∀ j, j < 56 → bendZ z (r * 7 + c1) x (20 + j) = va_up z (20 + (r * 7 + c1)) x (20 + j) := fun j hj => by
    unfold bendZ
    repeat' split
    all_goals simp (disch := omega) only [va_ne]
  refine ⟨bendZ z (r * 7 + c1) x, RB_bend hR hi hx (RB_16 hR).1 (RB_16 hR).2.1, ⟨?_, ?_, fun p hp => ?_, ?_⟩, vg.of (fun i h1 h2 => e i (by omega) h2), fun i h1 => ?_, vk.of (fun i h1 h2 => e i (by omega) (by omega)), vt.of (fun i h1 h2 => e i (by omega) (by omega))⟩
  · rw [e 11 (by omega) (by omega)]; exact hI.1
  · rw [e 15 (by omega) (by omega)]; exact hI.2.1
  · rw [e _ (by omega) (by omega)]; exact hI.2.2.1 p hp
  · rw [e 1 (by omega) (by omega), e 2 (by omega) (by omega), e 3 (by omega) (by omega), e 4 (by omega) (by omega)]; exact hI.2.2.2
  · rw [ep i h1]
    by_cases c0 : i = (7 * r) + c1
    · rw [c0, vat, show 20 + (7 * r + c1) = 20 + (r * 7 + c1) by omega, vat]
    · rw [va_ne c0, va_ne (by omega)]
      exact vp i h1
theorem VV_poc {B : Nat} {β : zB} {z : zZ} {g pins k t : Nat → Int32} (hR : RB B β z) (hI : VI z) (vg : VG z g) (vp : VP z pins) (vk : VK z k) (vt : VT z t) {p : Nat} {q w : Int32} (hp : p < 7) (hq : q = 0 ∨ q = 1 ∨ q = 2) (hw : ∃ j, j ≤ 15 ∧ w = nI j) {x : Int32} (hx : x = if q = 2 then (if k (5 * p) = 2 then k ((5 * p) + 2) else 0) else 0) :
    VV B (chPocketB β p q w) g pins (va_up (va_up (va_up k ((5 * p) + 2) x) (5 * p) q) ((5 * p) + 1) w) t := by
  have e0 : k (5 * p) = z (132 + 5 * p) := vk _ (by omega)
  have e2 : k ((5 * p) + 2) = z (132 + 5 * p + 2) := vk _ (by omega)
  have e : ∀ j, j < 132 ∨ 167 ≤ j → pocZ z p q w j = z j := fun j h1 => by
    unfold pocZ
    simp (disch := omega) only [va_ne]
  refine ⟨pocZ z p q w, RB_poc hR hp hq hw, ⟨?_, ?_, fun r hr => ?_, ?_⟩, vg.of (fun i h1 h2 => e i (by omega)), vp.of (fun i h1 h2 => e i (by omega)), ?_, vt.of (fun i h1 h2 => e i (by omega))⟩
  · rw [e 11 (by omega)]; exact hI.1
  · rw [e 15 (by omega)]; exact hI.2.1
  · unfold pocZ
    rw [va_ne (by omega), va_ne (by omega)]
    by_cases c0 : r = p
    · subst c0
      rw [vat]
      split
      · split
        · exact hI.2.2.1 r hr
        · exact Or.inl rfl
      · exact Or.inl rfl
    · rw [va_ne (by omega)]
      exact hI.2.2.1 r hr
  · rw [e 1 (by omega), e 2 (by omega), e 3 (by omega), e 4 (by omega)]; exact hI.2.2.2
  · unfold pocZ
    refine ((vk.u (by omega) ?_).u (by omega) rfl).u (by omega) rfl
    rw [hx, e0, e2]
theorem VI_num {z : zZ} (hI : VI z) {j : Nat} {x : Int32} (hj : j = 0 ∨ j = 13 ∨ j = 14 ∨ j = 15) (hx : 0 ≤ x ∨ j ≠ 15) : VI (va_up z j x) := by
  refine ⟨by rw [va_ne (by omega)]; exact hI.1, ?_, fun p hp => by rw [va_ne (by omega)]; exact hI.2.2.1 p hp, by rw [va_ne (by omega), va_ne (by omega), va_ne (by omega), va_ne (by omega)]; exact hI.2.2.2⟩
  by_cases e : 15 = j
  · subst e
    rw [vat]
    exact hx.resolve_right (fun q => q rfl)
  · rw [va_ne e]
    exact hI.2.1
theorem VV_num {B : Nat} {β : zB} {z : zZ} {g pins k t : Nat → Int32} (hR : RB B β z) (hI : VI z) (vg : VG z g) (vp : VP z pins) (vk : VK z k) (vt : VT z t) {i j : Nat} {x : Int32} (hr : RV (up2 β 0 i x) (va_up z j x)) (hij : (i = 13 ∧ j = 0) ∨ (i = 12 ∧ j = 13) ∨ (i = 14 ∧ j = 14) ∨ (i = 15 ∧ j = 15)) (hx : 0 ≤ x) : VV B (up2 β 0 i x) (va_up g i x) pins k t := by
  refine ⟨va_up z j x, RB_num hR hr (by omega) (by omega) (fun _ => hx) (fun _ => hx), VI_num hI (by omega) (Or.inl hx), vg.u (by omega) ?_ rfl, vp.of (fun q h1 h2 => va_ne (by omega)), vk.of (fun q h1 h2 => va_ne (by omega)), vt.of (fun q h1 h2 => va_ne (by omega))⟩
  rcases hij with ⟨rfl, rfl⟩ | ⟨rfl, rfl⟩ | ⟨rfl, rfl⟩ | ⟨rfl, rfl⟩ <;> rfl
theorem VV_buy {B : Nat} {β : zB} {z : zZ} {g pins k t : Nat → Int32} (hR : RB B β z) (hI : VI z) (vg : VG z g) (vp : VP z pins) (vk : VK z k) (vt : VT z t) (x : Int32) : VV B (buyB β x) (va_up (va_up g 0 (g 0 + x)) 1 (g 1 + x)) pins k t ∧ buyB β x 0 0 = g 0 + x := by
  have hb := RB_buy hR x
  have e0 : g 0 = z 1 := vg 0 (by omega)
  have e1 : g 1 = z 2 := vg 1 (by omega)
  refine ⟨⟨buyZ z x, hb, ⟨?_, ?_, fun p hp => ?_, ?_⟩, (vg.u (by omega) rfl (by rw [e0])).u (by omega) rfl (by rw [e1]), vp.of (fun q h1 h2 => ?_), vk.of (fun q h1 h2 => ?_), vt.of (fun q h1 h2 => ?_)⟩, ?_⟩
  · unfold buyZ; rw [va_ne (by omega), va_ne (by omega)]; exact hI.1
  · unfold buyZ; rw [va_ne (by omega), va_ne (by omega)]; exact hI.2.1
  · unfold buyZ; rw [va_ne (by omega), va_ne (by omega)]; exact hI.2.2.1 p hp
  · unfold buyZ
    simp (disch := omega) only [va_ne, vat]
    rw [hI.2.2.2]
    apply Int32.toBitVec_inj.mp
    simp only [Int32.toBitVec_add, Int32.toBitVec_sub]
    rw [BitVec.sub_eq_add_neg, BitVec.sub_eq_add_neg]
    ac_rfl
  · unfold buyZ; rw [va_ne (by omega), va_ne (by omega)]
  · unfold buyZ; rw [va_ne (by omega), va_ne (by omega)]
  · unfold buyZ; rw [va_ne (by omega), va_ne (by omega)]
  · rw [show buyB β x 0 0 = buyZ z x 1 from hb.1.n (i := 0) (by omega), e0]
    unfold buyZ
    rw [va_ne (by omega), vat]
theorem VV_lch {B : Nat} {β : zB} {z : zZ} {g pins k t : Nat → Int32} (hR : RB B β z) (hI : VI z) (vg : VG z g) (vp : VP z pins) (vk : VK z k) (vt : VT z t) {c : Nat} (hc : c < 7) : VV (B + 1) (lchB β c) (lG pins g k t c) pins (lK pins g k t c) (lT pins g t c) ∧ lchB β c 0 11 = lG pins g k t c 11 := by
  obtain ⟨h1, h2, h3, h4, h5⟩ := V_lch hR.2.2 hI vg vp vk vt hc
  have hb := (RB_lch hR hc).1
  refine ⟨⟨lchZ z c, hb, VI_lch hI hc, h1, h2, h3, h4⟩, ?_⟩
  rw [h1.at (i := 11) (k := 12) (by omega) (by rfl)]
  exact hb.1.n (i := 11) (by omega)
