/-! The reference: z = μ 0 (one row of numbers), 1 aside, 2 saved, 3 kept, 4 text, 5 here, 6 next; φ: 0 thrown, 1 saves, 2 isKept, 3 length, 4 letter, 5 first, 6 second, 7 sign -/
abbrev zZ : Type := Nat → Int32
theorem up2_sa0 {μ : zB} {j i : Nat} {f : Nat → Int32} {x : Int32} : up2 (sa μ j f) j i x = sa μ j (va_up f i x) := by rw [up2_sa, sa_sa, sa_at]
theorem sa_z {μ : zB} {j : Nat} {f g : Nat → Int32} : sa (sa μ j f) j g = sa μ j g := sa_sa μ j f g
def inV (v lo hi : Int32) : Int32 := if v < lo then 0 else if hi < v then 0 else 1
theorem inV_nI {r k : Nat} (h : r ≤ k) (hk : k < 2 ^ 31) : inV (nI r) 0 (nI k) = 1 := by
  unfold inV
  rw [if_neg (nI_pos (by omega)), if_neg (nI_nlt h hk)]
def nxI (x : Int32) : Int32 := Int64.toInt32 ((1103515245 * Int32.toInt64 x + 12345) - (1103515245 * Int32.toInt64 x + 12345) / 2147483648 * 2147483648)
def dZ (z : zZ) : zZ := va_up z 0 (nxI (z 0))
def drZ (z : zZ) (m : Int32) : Int32 := nxI (z 0) / 65536 - nxI (z 0) / 65536 / m * m
def isOpenZ (z : zZ) (p : Nat) : Int32 := if z (132 + 5 * p) = 0 then 1 else if z (132 + 5 * p) = 1 then (if z 10 ≤ 0 then 0 else 1) else if z (132 + 5 * p + 2) = 1 then 1 else 0
def spZ1 (z : zZ) : zZ := va_up (va_up z 7 (z 7 - 1)) 8 (z 8 + 1)
def spZm (z : zZ) : Int32 := if z 11 ≤ 0 then 8 else 4
def spZ2 (z : zZ) : zZ := va_up z 11 (z 11 - (if z 11 ≤ 0 then 0 else 1))
def spZr (z : zZ) (m : Int32) (r : Nat) : zZ := va_up (dZ z) (17 + r) (drZ z m)
def spZ3 (z : zZ) (m : Int32) : zZ := spZr (spZr (spZr z m 0) m 1) m 2
def spZ4 (z : zZ) : zZ := if z 17 = z 18 then (if z 17 = z 19 then va_up (va_up (va_up (va_up z 10 0) 10 (z 14)) 9 (z 9 + 1)) 11 (z 15) else va_up z 10 0) else va_up z 10 0
def spZ (z : zZ) : zZ := spZ4 (spZ3 (spZ2 (spZ1 z)) (spZm (spZ1 z)))
def xOk (z : zZ) : Prop := ∃ a, a < 2147483648 ∧ z 0 = nI a
def falS (z : zZ) (r c : Nat) : zZ × Nat := if z (20 + (7 * r + c)) = 0 then (dZ (va_up z (167 + r) (nI (7 * r + c))), bnc c (2 * drZ (va_up z (167 + r) (nI (7 * r + c))) 2 - 1)) else (va_up z (167 + r) (nI (7 * r + c)), bnc c (z (20 + (7 * r + c))))
def falN (z : zZ) (c : Nat) : Nat → zZ × Nat
  | 0 => (z, c)
  | r + 1 => falS (falN z c r).1 r (falN z c r).2
def czO (z : zZ) (p : Nat) (o : Int32) : Int32 := if o = 0 then 0 else z (132 + 5 * p + 1)
def cz1 (z : zZ) (p : Nat) (o : Int32) : zZ := if z (132 + 5 * p) = 2 then va_up z (132 + 5 * p + 2) (if o = 0 then 1 else 0) else z
def cz2 (z : zZ) (k o : Int32) : zZ := va_up z 10 (z 10 - (if k = 1 then (if o = 0 then 0 else 1) else 0))
def cz3 (z : zZ) (o : Int32) : zZ := va_up z 5 (z 5 + if o = 0 then 1 else 0)
def cz4 (z : zZ) (o bl : Int32) : zZ := va_up z 6 (z 6 + if o = 0 then 0 else if bl = 0 then 1 else 0)
def cz5 (z : zZ) (bl : Int32) : zZ := va_up (va_up z 4 (z 4 + bl)) 1 (z 1 + bl)
def cz6 (z : zZ) (p : Nat) : zZ := va_up z (132 + 5 * p + 3) (z (132 + 5 * p + 3) + 1)
def cz7 (z : zZ) (p : Nat) (bl : Int32) : zZ := va_up z (132 + 5 * p + 4) (z (132 + 5 * p + 4) + bl)
def czA (z : zZ) (p : Nat) (o k bl : Int32) : zZ := cz5 (cz4 (cz3 (cz2 (cz1 z p o) k o) o) o bl) bl
def czB (z : zZ) (p : Nat) (o k bl : Int32) : zZ := va_up (cz7 (cz6 (czA z p o k bl) p) p bl) 12 (nI p)
def comeZ (z : zZ) (p : Nat) : zZ := czB z p (isOpenZ z p) (z (132 + 5 * p)) (czO z p (isOpenZ z p))
def comeZr (z : zZ) (p : Nat) : Int32 := czO z p (isOpenZ z p)
theorem isOpenZ_1 {z : zZ} {p : Nat} (h : ¬ isOpenZ z p = 0) : isOpenZ z p = 1 := by
  unfold isOpenZ at *
  split
  · rfl
  · split
    · split
      · next h1 h2 h3 => rw [if_neg h1, if_pos h2, if_pos h3] at h; exact absurd rfl h
      · rfl
    · split
      · rfl
      · next h1 h2 h3 => rw [if_neg h1, if_neg h2, if_neg h3] at h; exact absurd rfl h
def lz1 (z : zZ) : zZ := va_up (va_up z 1 (z 1 - 1)) 3 (z 3 + 1)
def lz2 (z : zZ) : zZ := if z 7 ≤ 0 then z else if z 10 = 0 then spZ z else z
def lzA (z : zZ) (c : Nat) : zZ × Nat := falN (lz2 (lz1 z)) c 8
theorem lzA_eq (z : zZ) (c : Nat) : falN (lz2 (lz1 z)) c 8 = lzA z c := rfl
def lz5 (z : zZ) (p : Nat) : zZ := va_up z 7 (z 7 + if nI p = z 13 then (if 4 ≤ z 7 then 0 else 1) else 0)
def lchZ (z : zZ) (c : Nat) : zZ := lz5 (comeZ (lzA z c).1 (lzA z c).2) (lzA z c).2
def lchZr (z : zZ) (c : Nat) : Int32 := comeZr (lzA z c).1 (lzA z c).2
def plZ (c : Nat) : Nat → zZ × Int32 → zZ × Int32
  | 0, q => q
  | k + 1, q => if q.1 1 ≤ 0 then q else plZ c k (lchZ q.1 c, q.2 + lchZr q.1 c)
def pinZ (z : zZ) : Prop := ∀ i, i < 56 → z (20 + i) = 0 ∨ z (20 + i) = 1 ∨ z (20 + i) = -1
def buyZ (z : zZ) (k : Int32) : zZ := va_up (va_up z 1 (z 1 + k)) 2 (z 2 + k)
def bendZ (z : zZ) (i : Nat) (t : Int32) : zZ := if t = 0 then va_up (va_up z (20 + i) t) (76 + i) 0 else if z (20 + i) = 0 then va_up (va_up (va_up z (20 + i) t) 16 (z 16 + 1)) (76 + i) (z 16 + 1) else va_up z (20 + i) t

theorem inV_nar {v lo hi : Int32} : narrow .boolean (.int (inV v lo hi)) = .int (inV v lo hi) := by
  unfold inV; split
  · rfl
  · split <;> rfl
theorem inV_c6 {c : Nat} (h : c < 7) : inV (nI c) 0 6 = 1 := inV_nI (k := 6) (by omega) (by decide)
theorem inV_r7 {c : Nat} (h : c < 8) : inV (nI c) 0 7 = 1 := inV_nI (k := 7) (by omega) (by decide)
theorem bnc_p0 {c : Nat} (hc : c < 7) (h : inV (nI (c + 1)) 0 6 = 0) : nI c = nI (bnc c 1) := by
  by_cases h6 : c + 1 ≤ 6
  · rw [show (6 : Int32) = nI 6 from rfl, inV_nI h6 (by decide)] at h
    exact absurd h (by decide)
  · unfold bnc
    rw [if_pos rfl, if_neg (by omega)]
theorem bnc_p1 {c : Nat} (hc : c < 7) (h : ¬ inV (nI (c + 1)) 0 6 = 0) : nI (c + 1) = nI (bnc c 1) := by
  by_cases h6 : c + 1 ≤ 6
  · unfold bnc
    rw [if_pos rfl, if_pos (by omega)]
  · refine absurd ?_ h
    unfold inV
    rw [if_neg (nI_pos (by omega)), show (6 : Int32) = nI 6 from rfl, if_pos (nI_lt (by omega) (by omega))]
theorem i64_nn {a : Int64} {n : Nat} (h : a = Int64.ofNat n) : a = Int64.ofNat n := h
theorem nxA {a : Nat} (ha : a < 2147483648) : (1103515245 * Int32.toInt64 (nI a) + 12345 : Int64) = Int64.ofNat (1103515245 * a + 12345) := by
  rw [Int64.ofNat_add, Int64.ofNat_mul]
  have : Int32.toInt64 (nI a) = Int64.ofNat a := nI_l (by omega)
  rw [this]
  rfl
theorem lN_div {a b : Nat} (ha : a < 2 ^ 63) (hb : b < 2 ^ 63) : Int64.ofNat a / Int64.ofNat b = Int64.ofNat (a / b) := by
  apply Int64.toInt_inj.mp
  have h1 : a / b < 2 ^ 63 := Nat.lt_of_le_of_lt (Nat.div_le_self a b) ha
  rw [Int64.toInt_div, Int64.toInt_ofNat_of_lt ha, Int64.toInt_ofNat_of_lt hb, Int64.toInt_ofNat_of_lt h1]
  have h2 : Int.tdiv (a : Int) (b : Int) = ((a / b : Nat) : Int) := by
    rw [Int.tdiv_eq_ediv_of_nonneg (by omega)]
    rfl
  rw [h2]
  generalize a / b = q at h1
  rw [Int.bmod_eq_of_le] <;> omega
theorem nI_div {a b : Nat} (ha : a < 2 ^ 31) (hb : b < 2 ^ 31) : nI a / nI b = nI (a / b) := by
  apply Int32.toInt_inj.mp
  have h1 : a / b < 2 ^ 31 := Nat.lt_of_le_of_lt (Nat.div_le_self a b) ha
  rw [Int32.toInt_div, nI_toInt ha, nI_toInt hb, nI_toInt h1]
  have h2 : Int.tdiv (a : Int) (b : Int) = ((a / b : Nat) : Int) := by
    rw [Int.tdiv_eq_ediv_of_nonneg (by omega)]
    rfl
  rw [h2]
  generalize a / b = q at h1
  rw [Int.bmod_eq_of_le] <;> omega
def nxt (a : Nat) : Nat := (1103515245 * a + 12345) % 2147483648
theorem nxt_lt (a : Nat) : nxt a < 2147483648 := Nat.mod_lt _ (by decide)
theorem nxL {a : Nat} (ha : a < 2147483648) : ((1103515245 * Int32.toInt64 (nI a) + 12345) - (1103515245 * Int32.toInt64 (nI a) + 12345) / 2147483648 * 2147483648 : Int64) = Int64.ofNat (nxt a) := by
  rw [nxA ha]
  have e : (2147483648 : Int64) = Int64.ofNat 2147483648 := rfl
  rw [e, lN_div (by omega) (by omega), ← Int64.ofNat_mul, ← Int64.ofNat_sub _ _ (Nat.div_mul_le_self _ _)]
  refine congrArg Int64.ofNat ?_
  unfold nxt
  generalize 1103515245 * a + 12345 = q
  omega
theorem l2i_nI {a : Nat} : Int64.toInt32 (Int64.ofNat a) = nI a := by
  apply Int32.toBitVec_inj.mp
  show (BitVec.ofNat 64 a).signExtend 32 = BitVec.ofNat 32 a
  rw [BitVec.signExtend_eq_setWidth_of_le _ (by decide)]
  apply BitVec.eq_of_toNat_eq
  simp [BitVec.toNat_setWidth]
theorem nxI_nI {a : Nat} (ha : a < 2147483648) : nxI (nI a) = nI (nxt a) := by
  unfold nxI
  rw [nxL ha, l2i_nI]
theorem xOk_d {z : zZ} (h : xOk z) : xOk (dZ z) := by
  obtain ⟨a, h1, h2⟩ := h
  refine ⟨nxt a, nxt_lt a, ?_⟩
  unfold dZ va_up
  rw [if_pos rfl, h2, nxI_nI h1]
theorem xOk_up {z : zZ} (h : xOk z) {i : Nat} {x : Int32} (hi : 0 ≠ i) : xOk (va_up z i x) := by
  obtain ⟨a, h1, h2⟩ := h
  exact ⟨a, h1, by unfold va_up; rw [if_neg hi]; exact h2⟩
theorem drZ_nI {z : zZ} {a m : Nat} (ha : a < 2147483648) (hz : z 0 = nI a) (hm : m < 2 ^ 31) : drZ z (nI m) = nI (nxt a / 65536 % m) := by
  unfold drZ
  have h1 := nxt_lt a
  have e : (65536 : Int32) = nI 65536 := rfl
  have h2 : nxt a / 65536 < 2 ^ 31 := by omega
  rw [hz, nxI_nI ha, e, nI_div (by omega) (by omega), nI_div h2 hm, zI_mul, zI_sub (Nat.div_mul_le_self _ _)]
  refine congrArg nI ?_
  generalize nxt a / 65536 = q
  have := Nat.div_add_mod q m
  rw [Nat.mul_comm] at this
  omega
theorem drZ_2 {z : zZ} (h : xOk z) : 2 * drZ z 2 - 1 = 1 ∨ 2 * drZ z 2 - 1 = -1 := by
  obtain ⟨a, h1, h2⟩ := h
  rw [show drZ z 2 = drZ z (nI 2) from rfl, drZ_nI h1 h2 (by decide)]
  rcases Nat.mod_two_eq_zero_or_one (nxt a / 65536) with e | e
  · rw [e]; exact Or.inr (by decide)
  · rw [e]; exact Or.inl (by decide)
theorem va_up_20 {z : zZ} (j c : Nat) (hc : c < 7) (hj : j < 8) {x : Int32} : va_up z (167 + j) x (20 + (7 * j + c)) = z (20 + (7 * j + c)) := by
  unfold va_up
  rw [if_neg (by omega)]
theorem hne (j : Nat) {c : Nat} : (20 + (7 * j + c) = 167 + j) = (20 + (7 * j + c) = 167 + j) := rfl

