/-! The row z seen as the law's own arrays -/
def gi (i : Nat) : Nat := if i < 13 then i + 1 else if i = 13 then 0 else if i < 16 then i else i + 1
theorem gi_inj {i j : Nat} (hi : i < 19) (hj : j < 19) (h : i ≠ j) : gi i ≠ gi j := by
  unfold gi
  repeat' split
  all_goals omega
theorem gi_lt {i : Nat} (hi : i < 19) : gi i < 20 := by
  unfold gi
  repeat' split
  all_goals omega
theorem gi_o {i k : Nat} (hi : i < 19) (hk : k = 16 ∨ 20 ≤ k) : gi i ≠ k := by
  unfold gi
  repeat' split
  all_goals omega
def VG (z : zZ) (g : Nat → Int32) : Prop := ∀ i, i < 19 → g i = z (gi i)
def VK (z : zZ) (k : Nat → Int32) : Prop := ∀ i, i < 35 → k i = z (132 + i)
def VT (z : zZ) (t : Nat → Int32) : Prop := ∀ i, i < 8 → t i = z (167 + i)
def VP (z : zZ) (pins : Nat → Int32) : Prop := ∀ i, i < 56 → pins i = z (20 + i)
theorem VG.u {z : zZ} {g : Nat → Int32} (h : VG z g) {i k : Nat} {x y : Int32} (hi : i < 19) (hk : k = gi i) (hxy : x = y) : VG (va_up z k x) (va_up g i y) := by
  intro j hj
  by_cases e : j = i
  · subst e
    rw [hk, hxy, vat, vat]
  · rw [va_ne e, hk, va_ne (gi_inj hj hi e)]
    exact h j hj
theorem VG.o {z : zZ} {g : Nat → Int32} (h : VG z g) {k : Nat} {x : Int32} (hk : k = 16 ∨ 20 ≤ k) : VG (va_up z k x) g := by
  intro j hj
  rw [va_ne (gi_o hj hk)]
  exact h j hj
theorem VG.s {z : zZ} {g : Nat → Int32} (h : VG z g) {i : Nat} {x : Int32} (hx : g i = x) : VG z (va_up g i x) := by
  rw [va_upv hx]
  exact h
theorem VG.zs {z : zZ} {g : Nat → Int32} (h : VG z g) {k : Nat} {x : Int32} (hx : z k = x) : VG (va_up z k x) g := by
  rw [va_upv hx]
  exact h
theorem VK.u {z : zZ} {g : Nat → Int32} (h : VK z g) {i k : Nat} {x y : Int32} (hk : k = 132 + i) (hxy : x = y) : VK (va_up z k x) (va_up g i y) := by
  intro j hj
  by_cases e : j = i
  · subst e
    rw [hk, hxy, vat, vat]
  · rw [va_ne e, hk, va_ne (by omega)]
    exact h j hj
theorem VK.o {z : zZ} {g : Nat → Int32} (h : VK z g) {k : Nat} {x : Int32} (hk : k < 132 ∨ 167 ≤ k) : VK (va_up z k x) g := by
  intro j hj
  rw [va_ne (by omega)]
  exact h j hj
theorem VT.u {z : zZ} {g : Nat → Int32} (h : VT z g) {i k : Nat} {x y : Int32} (hk : k = 167 + i) (hxy : x = y) : VT (va_up z k x) (va_up g i y) := by
  intro j hj
  by_cases e : j = i
  · subst e
    rw [hk, hxy, vat, vat]
  · rw [va_ne e, hk, va_ne (by omega)]
    exact h j hj
theorem VT.of {z w : zZ} {g : Nat → Int32} (h : VT z g) (e : ∀ i, 167 ≤ i → i < 175 → w i = z i) : VT w g := fun i hi => (h i hi).trans (e _ (by omega) (by omega)).symm
theorem VP.of {z w : zZ} {g : Nat → Int32} (h : VP z g) (e : ∀ i, 20 ≤ i → i < 76 → w i = z i) : VP w g := fun i hi => (h i hi).trans (e _ (by omega) (by omega)).symm
theorem VK.of {z w : zZ} {g : Nat → Int32} (h : VK z g) (e : ∀ i, 132 ≤ i → i < 167 → w i = z i) : VK w g := fun i hi => (h i hi).trans (e _ (by omega) (by omega)).symm
theorem VG.of {z w : zZ} {g : Nat → Int32} (h : VG z g) (e : ∀ i, i < 20 → i ≠ 16 → w i = z i) : VG w g := fun i hi => (h i hi).trans (e _ (gi_lt hi) (gi_o hi (Or.inl rfl))).symm
theorem va_va {f : Nat → Int32} {i : Nat} {x y : Int32} : va_up (va_up f i x) i y = va_up f i y := by
  funext j
  unfold va_up
  split <;> rfl
/-! numbers that are drawn -/
theorem lN_and {v : Nat} (hv : v < 2 ^ 63) : Int64.ofNat v &&& 2147483647 = Int64.ofNat (v % 2147483648) := by
  apply Int64.toBitVec_inj.mp
  show BitVec.ofNat 64 v &&& 2147483647#64 = BitVec.ofNat 64 (v % 2147483648)
  apply BitVec.eq_of_toNat_eq
  rw [BitVec.toNat_and, BitVec.toNat_ofNat, BitVec.toNat_ofNat, Nat.mod_eq_of_lt (by omega)]
  show v &&& (2 ^ 31 - 1) = _
  rw [Nat.and_two_pow_sub_one_eq_mod]
  show _ = v % 2147483648 % 2 ^ 64
  omega
theorem nxG_nI {a : Nat} (ha : a < 2147483648) : nxG (nI a) = nI (nxt a) := by
  unfold nxG
  rw [show Int32.toInt64 (nI a) * 1103515245 + 12345 = 1103515245 * Int32.toInt64 (nI a) + 12345 by rw [Int64.mul_comm], nxA ha, lN_and (by omega), l2i_nI]
  rfl
theorem nI_shr {b : Nat} (hb : b < 2 ^ 31) : nI b >>> ((16 : Int32) &&& 31) = nI (b / 65536) := by
  rw [show ((16 : Int32) &&& 31) = 16 from rfl]
  apply Int32.toBitVec_inj.mp
  show (BitVec.ofNat 32 b).sshiftRight 16 = BitVec.ofNat 32 (b / 65536)
  rw [BitVec.sshiftRight_eq_of_msb_false (by rw [BitVec.msb_eq_false_iff_two_mul_lt, BitVec.toNat_ofNat]; omega)]
  apply BitVec.eq_of_toNat_eq
  rw [BitVec.toNat_ushiftRight, BitVec.toNat_ofNat, BitVec.toNat_ofNat, Nat.shiftRight_eq_div_pow]
  omega
theorem drLv_eq {z : zZ} {g : Nat → Int32} (h : VG z g) (hx : xOk z) (m : Int32) : drLv g m = drZ z m := by
  obtain ⟨a, h1, h2⟩ := hx
  have e : g 13 = z 0 := h 13 (by omega)
  have h3 := nxt_lt a
  unfold drLv drZ
  rw [e, h2, nxG_nI h1, nxI_nI h1, nI_shr (by omega), show (65536 : Int32) = nI 65536 from rfl, nI_div (by omega) (by omega)]
theorem VG_dr {z : zZ} {g : Nat → Int32} (h : VG z g) (hx : xOk z) : VG (dZ z) (drL g) := by
  obtain ⟨a, h1, h2⟩ := hx
  have e : g 13 = z 0 := h 13 (by omega)
  exact h.u (by omega) rfl (by rw [e, h2, nxG_nI h1, nxI_nI h1])
theorem VG_spr {z : zZ} {g : Nat → Int32} (h : VG z g) (hx : xOk z) (m : Int32) {r : Nat} (hr : r < 3) : VG (spZr z m r) (spLr g m r) ∧ xOk (spZr z m r) :=
  ⟨(VG_dr h hx).u (by omega) (by unfold gi; rw [if_neg (by omega), if_neg (by omega), if_neg (by omega)]; omega) (drLv_eq h hx m).symm, xOk_up (xOk_d hx) (by omega)⟩
theorem spZ1_11 {z : zZ} : spZ1 z 11 = z 11 := by unfold spZ1; rw [va_ne (by omega), va_ne (by omega)]
theorem VG_sp4 {z : zZ} {g : Nat → Int32} (h : VG z g) : VG (spZ4 z) (spL4 g) := by
  have e1 : g 16 = z 17 := h 16 (by omega)
  have e2 : g 17 = z 18 := h 17 (by omega)
  have e3 : g 18 = z 19 := h 18 (by omega)
  have hb : VG (va_up z 10 0) (spLb g) := by
    unfold spLb
    refine VG.s (VG.s (h.u (by omega) rfl rfl) ?_) ?_
    · rw [va_ne (by omega), Int32.add_zero]
    · rw [va_ne (by omega), va_ne (by omega)]
  unfold spZ4 spL4
  rw [e1, e2, e3]
  by_cases c1 : z 17 = z 18
  · rw [if_pos c1, if_pos c1]
    by_cases c2 : z 18 = z 19
    · rw [if_pos (c1.trans c2), if_pos c2, va_va]
      unfold spLa
      exact ((h.u (by omega) rfl (h 14 (by omega)).symm).u (by omega) rfl (by rw [h 8 (by omega)]; rfl)).u (by omega) rfl (h 15 (by omega)).symm
    · rw [if_neg (fun q => c2 (c1.symm.trans q)), if_neg c2]
      exact hb
  · rw [if_neg c1, if_neg c1]
    exact hb
theorem VG_sp {z : zZ} {g : Nat → Int32} (h : VG z g) (hx : xOk z) (h11 : 0 ≤ z 11) : VG (spZ z) (spL g) := by
  have e10 : g 10 = z 11 := h 10 (by omega)
  have em : spLm g = spZm (spZ1 z) := by unfold spLm spZm; rw [spZ1_11, e10]
  have h1 : VG (spZ1 z) (spL1 g) := (h.u (by omega) rfl (by rw [h 6 (by omega)]; rfl)).u (by omega) rfl (by rw [h 7 (by omega)]; rfl)
  have h2 : VG (spZ2 (spZ1 z)) (spL2 g) := by
    unfold spZ2 spL2
    refine h1.u (by omega) rfl ?_
    rw [spZ1_11, e10]
    by_cases c : z 11 ≤ 0
    · rw [if_pos c, if_pos c, Int32.le_antisymm c h11]
      rfl
    · rw [if_neg c, if_neg c]
  have x2 : xOk (spZ2 (spZ1 z)) := xOk_up (xOk_up (xOk_up hx (by omega)) (by omega)) (by omega)
  unfold spZ spL
  rw [em]
  have h3 := VG_spr h2 x2 (spZm (spZ1 z)) (r := 0) (by omega)
  have h4 := VG_spr h3.1 h3.2 (spZm (spZ1 z)) (r := 1) (by omega)
  exact VG_sp4 (VG_spr h4.1 h4.2 (spZm (spZ1 z)) (r := 2) (by omega)).1
theorem VG_lc2 {z : zZ} {g : Nat → Int32} (h : VG z g) (hx : xOk z) (h11 : 0 ≤ z 11) : VG (lz2 (lz1 z)) (lcL2 (lcL1 g)) := by
  have h1 : VG (lz1 z) (lcL1 g) := (h.u (by omega) rfl (by rw [h 0 (by omega)]; rfl)).u (by omega) rfl (by rw [h 2 (by omega)]; rfl)
  have e6 : lcL1 g 6 = lz1 z 7 := h1 6 (by omega)
  have e9 : lcL1 g 9 = lz1 z 10 := h1 9 (by omega)
  unfold lz2 lcL2
  rw [e6, e9]
  split
  · exact h1
  · split
    · exact VG_sp h1 (xOk_up (xOk_up hx (by omega)) (by omega)) (by unfold lz1; rw [va_ne (by omega), va_ne (by omega)]; exact h11)
    · exact h1
theorem V_fal {z : zZ} {g t pins : Nat → Int32} (h : VG z g) (ht : VT z t) (hp : VP z pins) (hx : xOk z) {c : Nat} (hc : c < 7) : ∀ r, r ≤ 8 → VG (falN z c r).1 (falL pins g t c r).1.1 ∧ VT (falN z c r).1 (falL pins g t c r).1.2 ∧ (falL pins g t c r).2 = (falN z c r).2 ∧ xOk (falN z c r).1
  | 0, _ => ⟨h, ht, rfl, hx⟩
  | r + 1, hr => by
    obtain ⟨i1, i2, i3, i4⟩ := V_fal h ht hp hx hc r (by omega)
    have hlt := falL_lt pins g t hc r
    have e1 : (falN z c r).1 (20 + (7 * r + (falL pins g t c r).2)) = pins ((7 * r) + (falL pins g t c r).2) := by
      rw [falN_keep _ (by omega) r (by omega)]
      exact (hp _ (by omega)).symm
    show VG (falS (falN z c r).1 r (falN z c r).2).1 (falLS _ _ _ _ _).1.1 ∧ VT (falS (falN z c r).1 r (falN z c r).2).1 (falLS _ _ _ _ _).1.2 ∧ (falLS _ _ _ _ _).2 = (falS (falN z c r).1 r (falN z c r).2).2 ∧ xOk (falS (falN z c r).1 r (falN z c r).2).1
    unfold falS falLS
    rw [← i3, e1]
    have j1 : VG (va_up (falN z c r).1 (167 + r) (nI (7 * r + (falL pins g t c r).2))) (falL pins g t c r).1.1 := i1.o (by omega)
    have j4 : xOk (va_up (falN z c r).1 (167 + r) (nI (7 * r + (falL pins g t c r).2))) := xOk_up i4 (by omega)
    have j2 : VT (va_up (falN z c r).1 (167 + r) (nI (7 * r + (falL pins g t c r).2))) (va_up (falL pins g t c r).1.2 r (nI (7 * r + (falL pins g t c r).2))) := i2.u rfl rfl
    split
    · refine ⟨VG_dr j1 j4, j2.of (fun i h1 h2 => va_ne (by omega)), ?_, xOk_d j4⟩
      dsimp only
      rw [drLv_eq j1 j4]
      have hd := drZ_2 j4
      congr 1
      split
      · next e => rw [e]; rfl
      · next e =>
        rcases hd with q | q
        · exact q.symm
        · refine absurd ?_ e
          obtain ⟨a, h1, h2⟩ := j4
          rw [show drZ _ 2 = drZ _ (nI 2) from rfl, drZ_nI h1 h2 (by decide)] at q ⊢
          rcases Nat.mod_two_eq_zero_or_one (nxt a / 65536) with e2 | e2
          · rw [e2]; rfl
          · rw [e2] at q; exact absurd q (by decide)
    · exact ⟨j1, j2, rfl, j4⟩
