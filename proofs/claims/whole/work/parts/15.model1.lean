/-! The reference: z = μ 0 (one row of numbers), 1 aside, 2 saved, 3 kept, 4 text, 5 here, 6 next; φ: 0 thrown, 1 saves, 2 isKept, 3 length, 4 letter, 5 first, 6 second, 7 sign -/
abbrev zZ : Type := Nat → Int32
theorem up2_sa0 {μ : zB} {j i : Nat} {f : Nat → Int32} {x : Int32} : up2 (sa μ j f) j i x = sa μ j (va_up f i x) := by rw [up2_sa, sa_sa, sa_at]
theorem sa_z {μ : zB} {j : Nat} {f g : Nat → Int32} : sa (sa μ j f) j g = sa μ j g := sa_sa μ j f g
def inV (v lo hi : Int32) : Int32 := if v < lo then 0 else if hi < v then 0 else 1
theorem inV_nI {r k : Nat} (h : r ≤ k) (hk : k < 2 ^ 31) : inV (nI r) 0 (nI k) = 1 := by
  unfold inV
  rw [if_neg (nI_pos (by omega)), if_neg (nI_nlt h hk)]
def nxI (x : Int32) : Int32 := Int64.toInt32 ((1103515245 * Int32.toInt64 x + 12345) - (1103515245 * Int32.toInt64 x + 12345) / 2147483648 * 2147483648)
def dZ (z : zZ) : zZ := va_up z 0 (nxI (z 0))
def drZ (z : zZ) (m : Int32) : Int32 := nxI (z 0) / 65536 - nxI (z 0) / 65536 / m * m
def isOpenZ (z : zZ) (p : Nat) : Int32 := if z (132 + 5 * p) = 0 then 1 else if z (132 + 5 * p) = 1 then (if z 10 ≤ 0 then 0 else 1) else if z (132 + 5 * p + 2) = 1 then 1 else 0
def spZ1 (z : zZ) : zZ := va_up (va_up z 7 (z 7 - 1)) 8 (z 8 + 1)
def spZm (z : zZ) : Int32 := if z 11 ≤ 0 then 8 else 4
def spZ2 (z : zZ) : zZ := va_up z 11 (z 11 - (if z 11 ≤ 0 then 0 else 1))
def spZr (z : zZ) (m : Int32) (r : Nat) : zZ := va_up (dZ z) (17 + r) (drZ z m)
def spZ3 (z : zZ) (m : Int32) : zZ := spZr (spZr (spZr z m 0) m 1) m 2
def spZ4 (z : zZ) : zZ := if z 17 = z 18 then (if z 17 = z 19 then va_up (va_up (va_up (va_up z 10 0) 10 (z 14)) 9 (z 9 + 1)) 11 (z 15) else va_up z 10 0) else va_up z 10 0
def spZ (z : zZ) : zZ := spZ4 (spZ3 (spZ2 (spZ1 z)) (spZm (spZ1 z)))
def xOk (z : zZ) : Prop := ∃ a, a < 2147483648 ∧ z 0 = nI a
def falS (z : zZ) (r c : Nat) : zZ × Nat := if z (20 + (7 * r + c)) = 0 then (dZ (va_up z (167 + r) (nI (7 * r + c))), bnc c (2 * drZ (va_up z (167 + r) (nI (7 * r + c))) 2 - 1)) else (va_up z (167 + r) (nI (7 * r + c)), bnc c (z (20 + (7 * r + c))))
def falN (z : zZ) (c : Nat) : Nat → zZ × Nat
  | 0 => (z, c)
  | r + 1 => falS (falN z c r).1 r (falN z c r).2
def czO (z : zZ) (p : Nat) (o : Int32) : Int32 := if o = 0 then 0 else z (132 + 5 * p + 1)
def cz1 (z : zZ) (p : Nat) (o : Int32) : zZ := if z (132 + 5 * p) = 2 then va_up z (132 + 5 * p + 2) (if o = 0 then 1 else 0) else z
def cz2 (z : zZ) (k o : Int32) : zZ := va_up z 10 (z 10 - (if k = 1 then (if o = 0 then 0 else 1) else 0))
def cz3 (z : zZ) (o : Int32) : zZ := va_up z 5 (z 5 + if o = 0 then 1 else 0)
def cz4 (z : zZ) (o bl : Int32) : zZ := va_up z 6 (z 6 + if o = 0 then 0 else if bl = 0 then 1 else 0)
def cz5 (z : zZ) (bl : Int32) : zZ := va_up (va_up z 4 (z 4 + bl)) 1 (z 1 + bl)
def cz6 (z : zZ) (p : Nat) : zZ := va_up z (132 + 5 * p + 3) (z (132 + 5 * p + 3) + 1)
def cz7 (z : zZ) (p : Nat) (bl : Int32) : zZ := va_up z (132 + 5 * p + 4) (z (132 + 5 * p + 4) + bl)
def czA (z : zZ) (p : Nat) (o k bl : Int32) : zZ := cz5 (cz4 (cz3 (cz2 (cz1 z p o) k o) o) o bl) bl
def czB (z : zZ) (p : Nat) (o k bl : Int32) : zZ := va_up (cz7 (cz6 (czA z p o k bl) p) p bl) 12 (nI p)
def comeZ (z : zZ) (p : Nat) : zZ := czB z p (isOpenZ z p) (z (132 + 5 * p)) (czO z p (isOpenZ z p))
def comeZr (z : zZ) (p : Nat) : Int32 := czO z p (isOpenZ z p)
theorem isOpenZ_1 {z : zZ} {p : Nat} (h : ¬ isOpenZ z p = 0) : isOpenZ z p = 1 := by
  unfold isOpenZ at *
  split
  · rfl
  · split
    · split
      · next h1 h2 h3 => rw [if_neg h1, if_pos h2, if_pos h3] at h; exact absurd rfl h
      · rfl
    · split
      · rfl
      · next h1 h2 h3 => rw [if_neg h1, if_neg h2, if_neg h3] at h; exact absurd rfl h
def lz1 (z : zZ) : zZ := va_up (va_up z 1 (z 1 - 1)) 3 (z 3 + 1)
def lz2 (z : zZ) : zZ := if z 7 ≤ 0 then z else if z 10 = 0 then spZ z else z
def lzA (z : zZ) (c : Nat) : zZ × Nat := falN (lz2 (lz1 z)) c 8
theorem lzA_eq (z : zZ) (c : Nat) : falN (lz2 (lz1 z)) c 8 = lzA z c := rfl
def lz5 (z : zZ) (p : Nat) : zZ := va_up z 7 (z 7 + if nI p = z 13 then (if 4 ≤ z 7 then 0 else 1) else 0)
def lchZ (z : zZ) (c : Nat) : zZ := lz5 (comeZ (lzA z c).1 (lzA z c).2) (lzA z c).2
def lchZr (z : zZ) (c : Nat) : Int32 := comeZr (lzA z c).1 (lzA z c).2
def plZ (c : Nat) : Nat → zZ × Int32 → zZ × Int32
  | 0, q => q
  | k + 1, q => if q.1 1 ≤ 0 then q else plZ c k (lchZ q.1 c, q.2 + lchZr q.1 c)
def pinZ (z : zZ) : Prop := ∀ i, i < 56 → z (20 + i) = 0 ∨ z (20 + i) = 1 ∨ z (20 + i) = -1
def buyZ (z : zZ) (k : Int32) : zZ := va_up (va_up z 1 (z 1 + k)) 2 (z 2 + k)
def bendZ (z : zZ) (i : Nat) (t : Int32) : zZ := if t = 0 then va_up (va_up z (20 + i) t) (76 + i) 0 else if z (20 + i) = 0 then va_up (va_up (va_up z (20 + i) t) 16 (z 16 + 1)) (76 + i) (z 16 + 1) else va_up z (20 + i) t

theorem inV_nar {v lo hi : Int32} : narrow .boolean (.int (inV v lo hi)) = .int (inV v lo hi) := by
  unfold inV; split
  · rfl
  · split <;> rfl
theorem inV_c6 {c : Nat} (h : c < 7) : inV (nI c) 0 6 = 1 := inV_nI (k := 6) (by omega) (by decide)
theorem inV_r7 {c : Nat} (h : c < 8) : inV (nI c) 0 7 = 1 := inV_nI (k := 7) (by omega) (by decide)
theorem bnc_p0 {c : Nat} (hc : c < 7) (h : inV (nI (c + 1)) 0 6 = 0) : nI c = nI (bnc c 1) := by
  by_cases h6 : c + 1 ≤ 6
  · rw [show (6 : Int32) = nI 6 from rfl, inV_nI h6 (by decide)] at h
    exact absurd h (by decide)
  · unfold bnc
    rw [if_pos rfl, if_neg (by omega)]
theorem bnc_p1 {c : Nat} (hc : c < 7) (h : ¬ inV (nI (c + 1)) 0 6 = 0) : nI (c + 1) = nI (bnc c 1) := by
  by_cases h6 : c + 1 ≤ 6
  · unfold bnc
    rw [if_pos rfl, if_pos (by omega)]
  · refine absurd ?_ h
    unfold inV
    rw [if_neg (nI_pos (by omega)), show (6 : Int32) = nI 6 from rfl, if_pos (nI_lt (by omega) (by omega))]
theorem i64_nn {a : Int64} {n : Nat} (h : a = Int64.ofNat n) : a = Int64.ofNat n := h
theorem nxA {a : Nat} (ha : a < 2147483648) : (1103515245 * Int32.toInt64 (nI a) + 12345 : Int64) = Int64.ofNat (1103515245 * a + 12345) := by
  rw [Int64.ofNat_add, Int64.ofNat_mul]
  have : Int32.toInt64 (nI a) = Int64.ofNat a := nI_l (by omega)
  rw [this]
  rfl
theorem lN_div {a b : Nat} (ha : a < 2 ^ 63) (hb : b < 2 ^ 63) : Int64.ofNat a / Int64.ofNat b = Int64.ofNat (a / b) := by
  apply Int64.toInt_inj.mp
  have h1 : a / b < 2 ^ 63 := Nat.lt_of_le_of_lt (Nat.div_le_self a b) ha
  rw [Int64.toInt_div, Int64.toInt_ofNat_of_lt ha, Int64.toInt_ofNat_of_lt hb, Int64.toInt_ofNat_of_lt h1]
  have h2 : Int.tdiv (a : Int) (b : Int) = ((a / b : Nat) : Int) := by
    rw [Int.tdiv_eq_ediv_of_nonneg (by omega)]
    rfl
  rw [h2]
  generalize a / b = q at h1
  rw [Int.bmod_eq_of_le] <;> omega
theorem nI_div {a b : Nat} (ha : a < 2 ^ 31) (hb : b < 2 ^ 31) : nI a / nI b = nI (a / b) := by
  apply Int32.toInt_inj.mp
  have h1 : a / b < 2 ^ 31 := Nat.lt_of_le_of_lt (Nat.div_le_self a b) ha
  rw [Int32.toInt_div, nI_toInt ha, nI_toInt hb, nI_toInt h1]
  have h2 : Int.tdiv (a : Int) (b : Int) = ((a / b : Nat) : Int) := by
    rw [Int.tdiv_eq_ediv_of_nonneg (by omega)]
    rfl
  rw [h2]
  generalize a / b = q at h1
  rw [Int.bmod_eq_of_le] <;> omega
def nxt (a : Nat) : Nat := (1103515245 * a + 12345) % 2147483648
theorem nxt_lt (a : Nat) : nxt a < 2147483648 := Nat.mod_lt _ (by decide)
theorem nxL {a : Nat} (ha : a < 2147483648) : ((1103515245 * Int32.toInt64 (nI a) + 12345) - (1103515245 * Int32.toInt64 (nI a) + 12345) / 2147483648 * 2147483648 : Int64) = Int64.ofNat (nxt a) := by
  rw [nxA ha]
  have e : (2147483648 : Int64) = Int64.ofNat 2147483648 := rfl
  rw [e, lN_div (by omega) (by omega), ← Int64.ofNat_mul, ← Int64.ofNat_sub _ _ (Nat.div_mul_le_self _ _)]
  refine congrArg Int64.ofNat ?_
  unfold nxt
  generalize 1103515245 * a + 12345 = q
  omega
theorem l2i_nI {a : Nat} : Int64.toInt32 (Int64.ofNat a) = nI a := by
  apply Int32.toBitVec_inj.mp
  show (BitVec.ofNat 64 a).signExtend 32 = BitVec.ofNat 32 a
  rw [BitVec.signExtend_eq_setWidth_of_le _ (by decide)]
  apply BitVec.eq_of_toNat_eq
  simp [BitVec.toNat_setWidth]
theorem nxI_nI {a : Nat} (ha : a < 2147483648) : nxI (nI a) = nI (nxt a) := by
  unfold nxI
  rw [nxL ha, l2i_nI]
theorem xOk_d {z : zZ} (h : xOk z) : xOk (dZ z) := by
  obtain ⟨a, h1, h2⟩ := h
  refine ⟨nxt a, nxt_lt a, ?_⟩
  unfold dZ va_up
  rw [if_pos rfl, h2, nxI_nI h1]
theorem xOk_up {z : zZ} (h : xOk z) {i : Nat} {x : Int32} (hi : 0 ≠ i) : xOk (va_up z i x) := by
  obtain ⟨a, h1, h2⟩ := h
  exact ⟨a, h1, by unfold va_up; rw [if_neg hi]; exact h2⟩
theorem drZ_nI {z : zZ} {a m : Nat} (ha : a < 2147483648) (hz : z 0 = nI a) (hm : m < 2 ^ 31) : drZ z (nI m) = nI (nxt a / 65536 % m) := by
  unfold drZ
  have h1 := nxt_lt a
  have e : (65536 : Int32) = nI 65536 := rfl
  have h2 : nxt a / 65536 < 2 ^ 31 := by omega
  rw [hz, nxI_nI ha, e, nI_div (by omega) (by omega), nI_div h2 hm, zI_mul, zI_sub (Nat.div_mul_le_self _ _)]
  refine congrArg nI ?_
  generalize nxt a / 65536 = q
  have := Nat.div_add_mod q m
  rw [Nat.mul_comm] at this
  omega
theorem drZ_2 {z : zZ} (h : xOk z) : 2 * drZ z 2 - 1 = 1 ∨ 2 * drZ z 2 - 1 = -1 := by
  obtain ⟨a, h1, h2⟩ := h
  rw [show drZ z 2 = drZ z (nI 2) from rfl, drZ_nI h1 h2 (by decide)]
  rcases Nat.mod_two_eq_zero_or_one (nxt a / 65536) with e | e
  · rw [e]; exact Or.inr (by decide)
  · rw [e]; exact Or.inl (by decide)
theorem va_up_20 {z : zZ} (j c : Nat) (hc : c < 7) (hj : j < 8) {x : Int32} : va_up z (167 + j) x (20 + (7 * j + c)) = z (20 + (7 * j + c)) := by
  unfold va_up
  rw [if_neg (by omega)]
theorem hne (j : Nat) {c : Nat} : (20 + (7 * j + c) = 167 + j) = (20 + (7 * j + c) = 167 + j) := rfl

set_option maxRecDepth 100000 in
set_option maxHeartbeats 4000000 in
theorem c_X5_thrown {l : Launch} {D : va_G} {base : Nat} (G : l.stackTraces = false) {h : zH} {n : Nat} {b : Nat} {μ : zB} {φ : Nat → Int32} :
    zCt l D base 1 yX5_thrown w_X5_thrown [.ref b] (setM h b φ μ) n 0 0 (zR (some (.int (φ 0))) (setM h b φ μ) n) := by
  refine zCt.of G (by decide) (Nat.le_of_ble_eq_true rfl) (fun Sx V X hV hE hX => ?_)
  show V 0 [(0, .ref b)] [] (setM h b φ μ) n 0 0
  refine hV.aload_n 0 dX5_thrown_0 rfl ?_
  refine hV.getf dX5_thrown_1 fl_X5_35 M_o rfl ?_
  exact hE.1 dX5_thrown_4 rfl rfl (by decide) (by decide) (zRi rfl rfl rfl)

set_option maxRecDepth 100000 in
set_option maxHeartbeats 4000000 in
theorem c_X5_in {l : Launch} {D : va_G} {base : Nat} (G : l.stackTraces = false) {h : zH} {n : Nat} {v lo hi : Int32} :
    zCt l D base 1 yX5_in w_X5_in [.int v, .int lo, .int hi] (h) n 0 0 (zR (some (.int (inV v lo hi))) (h) n) := by
  refine zCt.of G (by decide) (Nat.le_of_ble_eq_true rfl) (fun Sx V X hV hE hX => ?_)
  show V 0 [(0, .int v), (1, .int lo), (2, .int hi)] [] (h) n 0 0
  refine hV.iload_n 0 dX5_in_0 rfl ?_
  refine hV.iload_n 1 dX5_in_1 rfl ?_
  by_cases c2_1 : v < lo
  · refine hV.icmp_lt_t (tgt := 14) dX5_in_2 (by decide) c2_1 ?_
    refine hV.iconst (v := 0) dX5_in_14 (by decide) ?_
    exact hE.1 dX5_in_15 rfl rfl (by decide) (by decide) (zRi (by simp [inV, c2_1]) rfl rfl)
  · refine hV.icmp_lt_f (tgt := 14) dX5_in_2 (by decide) c2_1 ?_
    refine hV.iload_n 0 dX5_in_5 rfl ?_
    refine hV.iload_n 2 dX5_in_6 rfl ?_
    by_cases c7_2 : hi < v
    · refine hV.icmp_gt_t (tgt := 14) dX5_in_7 (by decide) c7_2 ?_
      refine hV.iconst (v := 0) dX5_in_14 (by decide) ?_
      exact hE.1 dX5_in_15 rfl rfl (by decide) (by decide) (zRi (by simp [inV, c2_1, c7_2]) rfl rfl)
    · refine hV.icmp_gt_f (tgt := 14) dX5_in_7 (by decide) c7_2 ?_
      refine hV.iconst (v := 1) dX5_in_10 (by decide) ?_
      refine hV.goto (tgt := 15) dX5_in_11 (by decide) ?_
      exact hE.1 dX5_in_15 rfl rfl (by decide) (by decide) (zRi (by simp [inV, c2_1, c7_2]) rfl rfl)

set_option maxRecDepth 100000 in
set_option maxHeartbeats 4000000 in
theorem c_X5_isColumn {l : Launch} {D : va_G} {base : Nat} (G : l.stackTraces = false) {h : zH} {n : Nat} {v : Int32} :
    zCt l D base 2 yX5_isColumn w_X5_isColumn [.int v] (h) n 0 0 (zR (some (.int (inV v 0 6))) (h) n) := by
  refine zCt.of G (by decide) (Nat.le_of_ble_eq_true rfl) (fun Sx V X hV hE hX => ?_)
  show V 0 [(0, .int v)] [] (h) n 0 0
  refine hV.iload_n 0 dX5_isColumn_0 rfl ?_
  refine hV.iconst (v := 0) dX5_isColumn_1 (by decide) ?_
  refine hV.bipush (v := 6) dX5_isColumn_2 (by decide) ?_
  refine hV.callS1 (rest := []) dX5_isColumn_4 (c_X5_in G) my_X5_in ks_X5_39 rfl rfl (Nat.le_of_ble_eq_true rfl) (Nat.le_of_ble_eq_true rfl) (Nat.le_of_ble_eq_true rfl) (Nat.le_of_ble_eq_true rfl) (Nat.le_of_ble_eq_true rfl) (st2 := [.int (inV v 0 6)]) (k2 := 0) (g2 := 0) rfl rfl rfl ?_
  exact hE.1 dX5_isColumn_7 rfl inV_nar (by decide) (by decide) (zRi rfl rfl rfl)

set_option maxRecDepth 100000 in
set_option maxHeartbeats 4000000 in
theorem c_X5_isRow {l : Launch} {D : va_G} {base : Nat} (G : l.stackTraces = false) {h : zH} {n : Nat} {v : Int32} :
    zCt l D base 2 yX5_isRow w_X5_isRow [.int v] (h) n 0 0 (zR (some (.int (inV v 0 7))) (h) n) := by
  refine zCt.of G (by decide) (Nat.le_of_ble_eq_true rfl) (fun Sx V X hV hE hX => ?_)
  show V 0 [(0, .int v)] [] (h) n 0 0
  refine hV.iload_n 0 dX5_isRow_0 rfl ?_
  refine hV.iconst (v := 0) dX5_isRow_1 (by decide) ?_
  refine hV.bipush (v := 7) dX5_isRow_2 (by decide) ?_
  refine hV.callS1 (rest := []) dX5_isRow_4 (c_X5_in G) my_X5_in ks_X5_39 rfl rfl (Nat.le_of_ble_eq_true rfl) (Nat.le_of_ble_eq_true rfl) (Nat.le_of_ble_eq_true rfl) (Nat.le_of_ble_eq_true rfl) (Nat.le_of_ble_eq_true rfl) (st2 := [.int (inV v 0 7)]) (k2 := 0) (g2 := 0) rfl rfl rfl ?_
  exact hE.1 dX5_isRow_7 rfl inV_nar (by decide) (by decide) (zRi rfl rfl rfl)

set_option maxRecDepth 100000 in
set_option maxHeartbeats 4000000 in
theorem c_X5_of {l : Launch} {D : va_G} {base : Nat} (G : l.stackTraces = false) {h : zH} {n : Nat} {b : Nat} {μ : zB} {φ : Nat → Int32} {p w : Nat} (hp : p < 7) (hw : w < 5) :
    zCt l D base 1 yX5_of w_X5_of [.ref b, .int (nI p), .int (nI w)] (setM h b φ μ) n 0 0 (zR (some (.int (μ 0 (132 + 5 * p + w)))) (setM h b φ μ) n) := by
  refine zCt.of G (by decide) (Nat.le_of_ble_eq_true rfl) (fun Sx V X hV hE hX => ?_)
  show V 0 [(0, .ref b), (1, .int (nI p)), (2, .int (nI w))] [] (setM h b φ μ) n 0 0
  refine hV.aload_n 0 dX5_of_0 rfl ?_
  refine hV.getf dX5_of_1 fl_X5_7 M_o rfl ?_
  refine hV.sipush (v := 132) dX5_of_4 (by decide) ?_
  refine hV.iconst (v := 5) dX5_of_7 (by decide) ?_
  refine hV.iload_n 1 dX5_of_8 rfl ?_
  refine hV.imulN (a := 5) (b := p) dX5_of_9 ?_
  refine hV.iaddN (a := 132) (b := 5 * p) dX5_of_10 ?_
  refine hV.iload_n 2 dX5_of_11 rfl ?_
  refine hV.iaddN (a := 132 + (5 * p)) (b := w) dX5_of_12 ?_
  refine hV.iald (j := (132 + (5 * p)) + w) dX5_of_13 M_a0 (zix_nI (by omega)) (by omega) ?_
  exact hE.1 dX5_of_14 rfl rfl (by decide) (by decide) (zRi rfl rfl rfl)

set_option maxRecDepth 100000 in
set_option maxHeartbeats 4000000 in
theorem c_X5_put {l : Launch} {D : va_G} {base : Nat} (G : l.stackTraces = false) {h : zH} {n : Nat} {b : Nat} {μ : zB} {φ : Nat → Int32} {p w : Nat} {v : Int32} (hp : p < 7) (hw : w < 5) :
    zCt l D base 1 yX5_put w_X5_put [.ref b, .int (nI p), .int (nI w), .int v] (setM h b φ μ) n 0 0 (zR none (setM h b φ (sa μ 0 (va_up (μ 0) (132 + 5 * p + w) v))) n) := by
  refine zCt.of G (by decide) (Nat.le_of_ble_eq_true rfl) (fun Sx V X hV hE hX => ?_)
  show V 0 [(0, .ref b), (1, .int (nI p)), (2, .int (nI w)), (3, .int v)] [] (setM h b φ μ) n 0 0
  refine hV.aload_n 0 dX5_put_0 rfl ?_
  refine hV.getf dX5_put_1 fl_X5_7 M_o rfl ?_
  refine hV.sipush (v := 132) dX5_put_4 (by decide) ?_
  refine hV.iconst (v := 5) dX5_put_7 (by decide) ?_
  refine hV.iload_n 1 dX5_put_8 rfl ?_
  refine hV.imulN (a := 5) (b := p) dX5_put_9 ?_
  refine hV.iaddN (a := 132) (b := 5 * p) dX5_put_10 ?_
  refine hV.iload_n 2 dX5_put_11 rfl ?_
  refine hV.iaddN (a := 132 + (5 * p)) (b := w) dX5_put_12 ?_
  refine hV.iload_n 3 dX5_put_13 rfl ?_
  refine hV.iast (j := (132 + (5 * p)) + w) dX5_put_14 M_a0 (zix_nI (by omega)) (by omega) M_p0 ?_
  exact hE.2.2.2 dX5_put_15 rfl (by decide) (by decide) (zRv (by rw [up2_sa]) rfl)

set_option maxRecDepth 100000 in
set_option maxHeartbeats 4000000 in
theorem c_X5_lean {l : Launch} {D : va_G} {base : Nat} (G : l.stackTraces = false) {h : zH} {n : Nat} {b : Nat} {μ : zB} {φ : Nat → Int32} {i : Nat} (hi : i < 56) :
    zCt l D base 1 yX5_lean w_X5_lean [.ref b, .int (nI i)] (setM h b φ μ) n 0 0 (zR (some (.int (μ 0 (20 + i)))) (setM h b φ μ) n) := by
  refine zCt.of G (by decide) (Nat.le_of_ble_eq_true rfl) (fun Sx V X hV hE hX => ?_)
  show V 0 [(0, .ref b), (1, .int (nI i))] [] (setM h b φ μ) n 0 0
  refine hV.aload_n 0 dX5_lean_0 rfl ?_
  refine hV.getf dX5_lean_1 fl_X5_7 M_o rfl ?_
  refine hV.bipush (v := 20) dX5_lean_4 (by decide) ?_
  refine hV.iload_n 1 dX5_lean_6 rfl ?_
  refine hV.iaddN (a := 20) (b := i) dX5_lean_7 ?_
  refine hV.iald (j := 20 + i) dX5_lean_8 M_a0 (zix_nI (by omega)) (by omega) ?_
  exact hE.1 dX5_lean_9 rfl rfl (by decide) (by decide) (zRi rfl rfl rfl)

set_option maxRecDepth 100000 in
set_option maxHeartbeats 4000000 in
theorem c_X5_draw {l : Launch} {D : va_G} {base : Nat} (G : l.stackTraces = false) {h : zH} {n : Nat} {b : Nat} {μ : zB} {φ : Nat → Int32} {m : Int32} (hm : ¬ m = 0) :
    zCt l D base 1 yX5_draw w_X5_draw [.ref b, .int m] (setM h b φ μ) n 0 0 (zR (some (.int (drZ (μ 0) m))) (setM h b φ (sa μ 0 (dZ (μ 0)))) n) := by
  refine zCt.of G (by decide) (Nat.le_of_ble_eq_true rfl) (fun Sx V X hV hE hX => ?_)
  show V 0 [(0, .ref b), (1, .int m)] [] (setM h b φ μ) n 0 0
  refine hV.aload_n 0 dX5_draw_0 rfl ?_
  refine hV.getf dX5_draw_1 fl_X5_7 M_o rfl ?_
  refine hV.iconst (v := 0) dX5_draw_4 (by decide) ?_
  refine hV.ldc2 dX5_draw_5 kc_X5_75 ?_
  refine hV.aload_n 0 dX5_draw_8 rfl ?_
  refine hV.getf dX5_draw_9 fl_X5_7 M_o rfl ?_
  refine hV.iconst (v := 0) dX5_draw_12 (by decide) ?_
  refine hV.iald (j := 0) dX5_draw_13 M_a0 ⟨by decide, by decide⟩ (by decide) ?_
  refine hV.i2l dX5_draw_14 rfl ?_
  refine hV.lmul dX5_draw_15 ?_
  refine hV.ldc2 dX5_draw_16 kc_X5_77 ?_
  refine hV.ladd dX5_draw_19 ?_
  refine hV.ldc2 dX5_draw_20 kc_X5_79 ?_
  refine hV.lrem dX5_draw_23 (by decide) ?_
  refine hV.l2i dX5_draw_24 rfl ?_
  refine hV.iast (j := 0) dX5_draw_25 M_a0 ⟨by decide, by decide⟩ (by decide) M_p0 ?_
  refine hV.aload_n 0 dX5_draw_26 rfl ?_
  refine hV.getf dX5_draw_27 fl_X5_7 M_o rfl ?_
  refine hV.iconst (v := 0) dX5_draw_30 (by decide) ?_
  refine hV.iald (j := 0) dX5_draw_31 M_a0 ⟨by decide, by decide⟩ (by decide) ?_
  refine zTop (v := Int64.toInt32 (((1103515245 * (Int32.toInt64 (μ 0 0))) + 12345) - ((1103515245 * (Int32.toInt64 (μ 0 0))) + 12345) / 2147483648 * 2147483648)) rfl ?_
  refine hV.ldc dX5_draw_32 kc_X5_81 ?_
  refine hV.idiv dX5_draw_34 (by decide) ?_
  refine hV.iload_n 1 dX5_draw_35 rfl ?_
  refine hV.irem dX5_draw_36 hm ?_
  exact hE.1 dX5_draw_37 rfl rfl (by decide) (by decide) (zRi rfl (by rw [up2_sa]; rfl) rfl)

set_option maxRecDepth 100000 in
set_option maxHeartbeats 4000000 in
theorem c_X5_isOpen {l : Launch} {D : va_G} {base : Nat} (G : l.stackTraces = false) {h : zH} {n : Nat} {b : Nat} {μ : zB} {φ : Nat → Int32} {p : Nat} (hp : p < 7) :
    zCt l D base 2 yX5_isOpen w_X5_isOpen [.ref b, .int (nI p)] (setM h b φ μ) n 0 0 (zR (some (.int (isOpenZ (μ 0) p))) (setM h b φ μ) n) := by
  refine zCt.of G (by decide) (Nat.le_of_ble_eq_true rfl) (fun Sx V X hV hE hX => ?_)
  show V 0 [(0, .ref b), (1, .int (nI p))] [] (setM h b φ μ) n 0 0
  refine hV.aload_n 0 dX5_isOpen_0 rfl ?_
  refine hV.iload_n 1 dX5_isOpen_1 rfl ?_
  refine hV.iconst (v := 0) dX5_isOpen_2 (by decide) ?_
  refine hV.callV1 (rest := []) dX5_isOpen_3 (c_X5_of G (p := p) (w := 0) (by omega) (by omega)) my_X5_of kv_X5_68 M_o rfl rfl rfl (Nat.le_of_ble_eq_true rfl) (Nat.le_of_ble_eq_true rfl) (Nat.le_of_ble_eq_true rfl) (Nat.le_of_ble_eq_true rfl) (Nat.le_of_ble_eq_true rfl) (st2 := [.int ((μ 0) (132 + 5 * p))]) (k2 := 0) (g2 := 0) rfl rfl rfl ?_
  refine hV.istore_n (ls2 := [(2, .int ((μ 0) (132 + 5 * p))), (0, .ref b), (1, .int (nI p))]) dX5_isOpen_6 (by decide) rfl ?_
  refine hV.iload_n 0 dX5_isOpen_7 rfl ?_
  by_cases c8_1 : ((μ 0) (132 + 5 * p)) = 0
  · refine hV.if_eq_t (tgt := 39) dX5_isOpen_8 (by decide) c8_1 ?_
    refine hV.iconst (v := 1) dX5_isOpen_39 (by decide) ?_
    refine hV.goto (tgt := 44) dX5_isOpen_40 (by decide) ?_
    exact hE.1 dX5_isOpen_44 rfl rfl (by decide) (by decide) (zRi (by simp [isOpenZ, c8_1]) rfl rfl)
  · refine hV.if_eq_f (tgt := 39) dX5_isOpen_8 (by decide) c8_1 ?_
    refine hV.iload_n 0 dX5_isOpen_11 rfl ?_
    refine hV.iconst (v := 1) dX5_isOpen_12 (by decide) ?_
    by_cases c13_2 : ((μ 0) (132 + 5 * p)) = 1
    · refine hV.icmp_ne_f (tgt := 29) dX5_isOpen_13 (by decide) c13_2 ?_
      refine hV.aload_n 1 dX5_isOpen_16 rfl ?_
      refine hV.getf dX5_isOpen_17 fl_X5_7 M_o rfl ?_
      refine hV.bipush (v := 10) dX5_isOpen_20 (by decide) ?_
      refine hV.iald (j := 10) dX5_isOpen_22 M_a0 ⟨by decide, by decide⟩ (by decide) ?_
      by_cases c23_3 : (μ 0 10) ≤ 0
      · refine hV.if_le_t (tgt := 43) dX5_isOpen_23 (by decide) c23_3 ?_
        refine hV.iconst (v := 0) dX5_isOpen_43 (by decide) ?_
        exact hE.1 dX5_isOpen_44 rfl rfl (by decide) (by decide) (zRi (by simp [isOpenZ, c8_1, c13_2, c23_3]) rfl rfl)
      · refine hV.if_le_f (tgt := 43) dX5_isOpen_23 (by decide) c23_3 ?_
        refine hV.goto (tgt := 39) dX5_isOpen_26 (by decide) ?_
        refine hV.iconst (v := 1) dX5_isOpen_39 (by decide) ?_
        refine hV.goto (tgt := 44) dX5_isOpen_40 (by decide) ?_
        exact hE.1 dX5_isOpen_44 rfl rfl (by decide) (by decide) (zRi (by simp [isOpenZ, c8_1, c13_2, c23_3]) rfl rfl)
    · refine hV.icmp_ne_t (tgt := 29) dX5_isOpen_13 (by decide) c13_2 ?_
      refine hV.aload_n 1 dX5_isOpen_29 rfl ?_
      refine hV.iload_n 2 dX5_isOpen_30 rfl ?_
      refine hV.iconst (v := 2) dX5_isOpen_31 (by decide) ?_
      refine hV.callV1 (rest := []) dX5_isOpen_32 (c_X5_of G (p := p) (w := 2) (by omega) (by omega)) my_X5_of kv_X5_68 M_o rfl rfl rfl (Nat.le_of_ble_eq_true rfl) (Nat.le_of_ble_eq_true rfl) (Nat.le_of_ble_eq_true rfl) (Nat.le_of_ble_eq_true rfl) (Nat.le_of_ble_eq_true rfl) (st2 := [.int ((μ 0) (132 + 5 * p + 2))]) (k2 := 0) (g2 := 0) rfl rfl rfl ?_
      refine hV.iconst (v := 1) dX5_isOpen_35 (by decide) ?_
      by_cases c36_4 : ((μ 0) (132 + 5 * p + 2)) = 1
      · refine hV.icmp_ne_f (tgt := 43) dX5_isOpen_36 (by decide) c36_4 ?_
        refine hV.iconst (v := 1) dX5_isOpen_39 (by decide) ?_
        refine hV.goto (tgt := 44) dX5_isOpen_40 (by decide) ?_
        exact hE.1 dX5_isOpen_44 rfl rfl (by decide) (by decide) (zRi (by simp [isOpenZ, c8_1, c13_2, c36_4]) rfl rfl)
      · refine hV.icmp_ne_t (tgt := 43) dX5_isOpen_36 (by decide) c36_4 ?_
        refine hV.iconst (v := 0) dX5_isOpen_43 (by decide) ?_
        exact hE.1 dX5_isOpen_44 rfl rfl (by decide) (by decide) (zRi (by simp [isOpenZ, c8_1, c13_2, c36_4]) rfl rfl)

set_option maxRecDepth 100000 in
set_option maxHeartbeats 4000000 in
theorem c_X5_spin {l : Launch} {D : va_G} {base : Nat} (G : l.stackTraces = false) {h : zH} {n : Nat} {b : Nat} {μ : zB} {φ : Nat → Int32} :
    zCt l D base 2 yX5_spin w_X5_spin [.ref b] (setM h b φ μ) n 0 0 (zR none (setM h b φ (sa μ 0 (spZ (μ 0)))) n) := by
  refine zCt.of G (by decide) (Nat.le_of_ble_eq_true rfl) (fun Sx V X hV hE hX => ?_)
  show V 0 [(0, .ref b)] [] (setM h b φ μ) n 0 0
  by_cases c0 : spZ1 (μ 0) 11 ≤ 0
  · skip
    refine hV.aload_n 0 dX5_spin_0 rfl ?_
    refine hV.getf dX5_spin_1 fl_X5_7 M_o rfl ?_
    refine hV.bipush (v := 7) dX5_spin_4 (by decide) ?_
    refine hV.dup2 dX5_spin_6 rfl rfl ?_
    refine hV.iald (j := 7) dX5_spin_7 M_a0 ⟨by decide, by decide⟩ (by decide) ?_
    refine hV.iconst (v := 1) dX5_spin_8 (by decide) ?_
    refine hV.isub dX5_spin_9 ?_
    refine hV.iast (j := 7) dX5_spin_10 M_a0 ⟨by decide, by decide⟩ (by decide) M_p0 ?_
    refine hV.aload_n 0 dX5_spin_11 rfl ?_
    refine hV.getf dX5_spin_12 fl_X5_7 M_o rfl ?_
    refine hV.bipush (v := 8) dX5_spin_15 (by decide) ?_
    refine hV.dup2 dX5_spin_17 rfl rfl ?_
    refine hV.iald (j := 8) dX5_spin_18 M_a0 ⟨by decide, by decide⟩ (by decide) ?_
    refine zTop (v := μ 0 8) rfl ?_
    refine hV.iconst (v := 1) dX5_spin_19 (by decide) ?_
    refine hV.iadd dX5_spin_20 ?_
    refine hV.iast (j := 8) dX5_spin_21 M_a0 ⟨by decide, by decide⟩ (by decide) M_p0 ?_
    refine zHeap (h2 := setM h b φ (sa μ 0 (spZ1 (μ 0)))) (by simp [up2_sa, sa_z, sa_at, spZ1, c0]) ?_
    refine hV.aload_n 0 dX5_spin_22 rfl ?_
    refine hV.getf dX5_spin_23 fl_X5_7 M_o rfl ?_
    refine hV.bipush (v := 11) dX5_spin_26 (by decide) ?_
    refine hV.iald (j := 11) dX5_spin_28 M_a0 ⟨by decide, by decide⟩ (by decide) ?_
    refine zTop (v := (spZ1 (μ 0)) 11) rfl ?_
    refine hV.if_le_t (tgt := 36) dX5_spin_29 (by decide) c0 ?_
    refine hV.bipush (v := 8) dX5_spin_36 (by decide) ?_
    refine hV.istore_n (ls2 := [(1, .int 8), (0, .ref b)]) dX5_spin_38 (by decide) rfl ?_
    refine hV.aload_n 1 dX5_spin_39 rfl ?_
    refine hV.getf dX5_spin_40 fl_X5_7 M_o rfl ?_
    refine hV.bipush (v := 11) dX5_spin_43 (by decide) ?_
    refine hV.dup2 dX5_spin_45 rfl rfl ?_
    refine hV.iald (j := 11) dX5_spin_46 M_a0 ⟨by decide, by decide⟩ (by decide) ?_
    refine zTop (v := (spZ1 (μ 0)) 11) rfl ?_
    refine hV.aload_n 1 dX5_spin_47 rfl ?_
    refine hV.getf dX5_spin_48 fl_X5_7 M_o rfl ?_
    refine hV.bipush (v := 11) dX5_spin_51 (by decide) ?_
    refine hV.iald (j := 11) dX5_spin_53 M_a0 ⟨by decide, by decide⟩ (by decide) ?_
    refine zTop (v := (spZ1 (μ 0)) 11) rfl ?_
    refine hV.if_le_t (tgt := 61) dX5_spin_54 (by decide) c0 ?_
    refine hV.iconst (v := 0) dX5_spin_61 (by decide) ?_
    refine hV.isub dX5_spin_62 ?_
    refine hV.iast (j := 11) dX5_spin_63 M_a0 ⟨by decide, by decide⟩ (by decide) M_p0 ?_
    refine hV.iconst (v := 0) dX5_spin_64 (by decide) ?_
    refine hV.istore_n (ls2 := [(2, .int 0), (1, .int 8), (0, .ref b)]) dX5_spin_65 (by decide) rfl ?_
    refine zHeap (h2 := setM h b φ (sa μ 0 (spZ2 (spZ1 (μ 0))))) (by simp [up2_sa, sa_z, sa_at, spZ2, c0]) ?_
    refine hV.iload_n 0 dX5_spin_66 rfl ?_
    refine hV.iconst (v := 3) dX5_spin_67 (by decide) ?_
    refine hV.icmp_ge_f (tgt := 91) dX5_spin_68 (by decide) (by decide) ?_
    refine hV.aload_n 2 dX5_spin_71 rfl ?_
    refine hV.getf dX5_spin_72 fl_X5_7 M_o rfl ?_
    refine hV.bipush (v := 17) dX5_spin_75 (by decide) ?_
    refine hV.iload_n 0 dX5_spin_77 rfl ?_
    refine hV.iadd dX5_spin_78 ?_
    refine zTop (v := 17) (by decide) ?_
    refine hV.aload_n 2 dX5_spin_79 rfl ?_
    refine hV.iload_n 1 dX5_spin_80 rfl ?_
    refine hV.callV1 (rest := [.int 17, .ref (b + 1)]) dX5_spin_81 (c_X5_draw G (m := 8) (by decide)) my_X5_draw kv_X5_82 M_o rfl rfl rfl (Nat.le_of_ble_eq_true rfl) (Nat.le_of_ble_eq_true rfl) (Nat.le_of_ble_eq_true rfl) (Nat.le_of_ble_eq_true rfl) (Nat.le_of_ble_eq_true rfl) (st2 := [.int (drZ (spZ2 (spZ1 (μ 0))) 8), .int 17, .ref (b + 1)]) (k2 := 0) (g2 := 0) rfl rfl rfl ?_
    refine zHeap (h2 := setM h b φ (sa μ 0 (dZ (spZ2 (spZ1 (μ 0)))))) (by rw [sa_z]; rfl) ?_
    refine hV.iast (j := 17) dX5_spin_84 M_a0 ⟨by decide, by decide⟩ (by decide) M_p0 ?_
    refine hV.iinc 0 (v := 1) (ls2 := [(2, .int 1), (1, .int 8), (0, .ref b)]) dX5_spin_85 rfl (by decide) (by decide) rfl ?_
    refine hV.goto (tgt := 66) dX5_spin_88 (by decide) ?_
    refine hV.iload_n 0 dX5_spin_66 rfl ?_
    refine hV.iconst (v := 3) dX5_spin_67 (by decide) ?_
    refine hV.icmp_ge_f (tgt := 91) dX5_spin_68 (by decide) (by decide) ?_
    refine hV.aload_n 2 dX5_spin_71 rfl ?_
    refine hV.getf dX5_spin_72 fl_X5_7 M_o rfl ?_
    refine hV.bipush (v := 17) dX5_spin_75 (by decide) ?_
    refine hV.iload_n 0 dX5_spin_77 rfl ?_
    refine hV.iadd dX5_spin_78 ?_
    refine zTop (v := 18) (by decide) ?_
    refine hV.aload_n 2 dX5_spin_79 rfl ?_
    refine hV.iload_n 1 dX5_spin_80 rfl ?_
    refine zHeap (h2 := setM h b φ (sa μ 0 (va_up (dZ (spZ2 (spZ1 (μ 0)))) 17 (drZ (spZ2 (spZ1 (μ 0))) 8)))) (by simp only [up2_sa, sa_z, sa_at]; try rfl) ?_
    refine hV.callV1 (rest := [.int 18, .ref (b + 1)]) dX5_spin_81 (c_X5_draw G (m := 8) (by decide)) my_X5_draw kv_X5_82 M_o rfl rfl rfl (Nat.le_of_ble_eq_true rfl) (Nat.le_of_ble_eq_true rfl) (Nat.le_of_ble_eq_true rfl) (Nat.le_of_ble_eq_true rfl) (Nat.le_of_ble_eq_true rfl) (st2 := [.int (drZ (va_up (dZ (spZ2 (spZ1 (μ 0)))) 17 (drZ (spZ2 (spZ1 (μ 0))) 8)) 8), .int 18, .ref (b + 1)]) (k2 := 0) (g2 := 0) rfl rfl rfl ?_
    refine zHeap (h2 := setM h b φ (sa μ 0 (dZ (va_up (dZ (spZ2 (spZ1 (μ 0)))) 17 (drZ (spZ2 (spZ1 (μ 0))) 8))))) (by rw [sa_z]; rfl) ?_
    refine hV.iast (j := 18) dX5_spin_84 M_a0 ⟨by decide, by decide⟩ (by decide) M_p0 ?_
    refine hV.iinc 0 (v := 2) (ls2 := [(2, .int 2), (1, .int 8), (0, .ref b)]) dX5_spin_85 rfl (by decide) (by decide) rfl ?_
    refine hV.goto (tgt := 66) dX5_spin_88 (by decide) ?_
    refine hV.iload_n 0 dX5_spin_66 rfl ?_
    refine hV.iconst (v := 3) dX5_spin_67 (by decide) ?_
    refine hV.icmp_ge_f (tgt := 91) dX5_spin_68 (by decide) (by decide) ?_
    refine hV.aload_n 2 dX5_spin_71 rfl ?_
    refine hV.getf dX5_spin_72 fl_X5_7 M_o rfl ?_
    refine hV.bipush (v := 17) dX5_spin_75 (by decide) ?_
    refine hV.iload_n 0 dX5_spin_77 rfl ?_
    refine hV.iadd dX5_spin_78 ?_
    refine zTop (v := 19) (by decide) ?_
    refine hV.aload_n 2 dX5_spin_79 rfl ?_
    refine hV.iload_n 1 dX5_spin_80 rfl ?_
    refine zHeap (h2 := setM h b φ (sa μ 0 (va_up (dZ (va_up (dZ (spZ2 (spZ1 (μ 0)))) 17 (drZ (spZ2 (spZ1 (μ 0))) 8))) 18 (drZ (va_up (dZ (spZ2 (spZ1 (μ 0)))) 17 (drZ (spZ2 (spZ1 (μ 0))) 8)) 8)))) (by simp only [up2_sa, sa_z, sa_at]; try rfl) ?_
    refine hV.callV1 (rest := [.int 19, .ref (b + 1)]) dX5_spin_81 (c_X5_draw G (m := 8) (by decide)) my_X5_draw kv_X5_82 M_o rfl rfl rfl (Nat.le_of_ble_eq_true rfl) (Nat.le_of_ble_eq_true rfl) (Nat.le_of_ble_eq_true rfl) (Nat.le_of_ble_eq_true rfl) (Nat.le_of_ble_eq_true rfl) (st2 := [.int (drZ (va_up (dZ (va_up (dZ (spZ2 (spZ1 (μ 0)))) 17 (drZ (spZ2 (spZ1 (μ 0))) 8))) 18 (drZ (va_up (dZ (spZ2 (spZ1 (μ 0)))) 17 (drZ (spZ2 (spZ1 (μ 0))) 8)) 8)) 8), .int 19, .ref (b + 1)]) (k2 := 0) (g2 := 0) rfl rfl rfl ?_
    refine zHeap (h2 := setM h b φ (sa μ 0 (dZ (va_up (dZ (va_up (dZ (spZ2 (spZ1 (μ 0)))) 17 (drZ (spZ2 (spZ1 (μ 0))) 8))) 18 (drZ (va_up (dZ (spZ2 (spZ1 (μ 0)))) 17 (drZ (spZ2 (spZ1 (μ 0))) 8)) 8))))) (by rw [sa_z]; rfl) ?_
    refine hV.iast (j := 19) dX5_spin_84 M_a0 ⟨by decide, by decide⟩ (by decide) M_p0 ?_
    refine hV.iinc 0 (v := 3) (ls2 := [(2, .int 3), (1, .int 8), (0, .ref b)]) dX5_spin_85 rfl (by decide) (by decide) rfl ?_
    refine hV.goto (tgt := 66) dX5_spin_88 (by decide) ?_
    refine hV.iload_n 0 dX5_spin_66 rfl ?_
    refine hV.iconst (v := 3) dX5_spin_67 (by decide) ?_
    refine hV.icmp_ge_t (tgt := 91) dX5_spin_68 (by decide) (by decide) ?_
    refine zHeap (h2 := setM h b φ (sa μ 0 (va_up (dZ (va_up (dZ (va_up (dZ (spZ2 (spZ1 (μ 0)))) 17 (drZ (spZ2 (spZ1 (μ 0))) 8))) 18 (drZ (va_up (dZ (spZ2 (spZ1 (μ 0)))) 17 (drZ (spZ2 (spZ1 (μ 0))) 8)) 8))) 19 (drZ (va_up (dZ (va_up (dZ (spZ2 (spZ1 (μ 0)))) 17 (drZ (spZ2 (spZ1 (μ 0))) 8))) 18 (drZ (va_up (dZ (spZ2 (spZ1 (μ 0)))) 17 (drZ (spZ2 (spZ1 (μ 0))) 8)) 8)) 8)))) (by simp only [up2_sa, sa_z, sa_at]; try rfl) ?_
    refine zHeap (h2 := setM h b φ (sa μ 0 (spZ3 (spZ2 (spZ1 (μ 0))) 8))) rfl ?_
    obtain ⟨w, hw⟩ : ∃ w : zZ, w = spZ3 (spZ2 (spZ1 (μ 0))) 8 := ⟨_, rfl⟩
    rw [← hw]
    refine hV.aload_n 2 dX5_spin_91 rfl ?_
    refine hV.getf dX5_spin_92 fl_X5_7 M_o rfl ?_
    refine hV.bipush (v := 10) dX5_spin_95 (by decide) ?_
    refine hV.iconst (v := 0) dX5_spin_97 (by decide) ?_
    refine hV.iast (j := 10) dX5_spin_98 M_a0 ⟨by decide, by decide⟩ (by decide) M_p0 ?_
    refine hV.aload_n 2 dX5_spin_99 rfl ?_
    refine hV.getf dX5_spin_100 fl_X5_7 M_o rfl ?_
    refine hV.bipush (v := 17) dX5_spin_103 (by decide) ?_
    refine hV.iald (j := 17) dX5_spin_105 M_a0 ⟨by decide, by decide⟩ (by decide) ?_
    refine zTop (v := w 17) rfl ?_
    refine hV.aload_n 2 dX5_spin_106 rfl ?_
    refine hV.getf dX5_spin_107 fl_X5_7 M_o rfl ?_
    refine hV.bipush (v := 18) dX5_spin_110 (by decide) ?_
    refine hV.iald (j := 18) dX5_spin_112 M_a0 ⟨by decide, by decide⟩ (by decide) ?_
    refine zTop (v := w 18) rfl ?_
    by_cases c113_1 : (w 17) = (w 18)
    · refine hV.icmp_ne_f (tgt := 172) dX5_spin_113 (by decide) c113_1 ?_
      refine hV.aload_n 2 dX5_spin_116 rfl ?_
      refine hV.getf dX5_spin_117 fl_X5_7 M_o rfl ?_
      refine hV.bipush (v := 17) dX5_spin_120 (by decide) ?_
      refine hV.iald (j := 17) dX5_spin_122 M_a0 ⟨by decide, by decide⟩ (by decide) ?_
      refine zTop (v := w 17) rfl ?_
      refine hV.aload_n 2 dX5_spin_123 rfl ?_
      refine hV.getf dX5_spin_124 fl_X5_7 M_o rfl ?_
      refine hV.bipush (v := 19) dX5_spin_127 (by decide) ?_
      refine hV.iald (j := 19) dX5_spin_129 M_a0 ⟨by decide, by decide⟩ (by decide) ?_
      refine zTop (v := w 19) rfl ?_
      by_cases c130_2 : (w 17) = (w 19)
      · refine hV.icmp_ne_f (tgt := 172) dX5_spin_130 (by decide) c130_2 ?_
        refine hV.aload_n 2 dX5_spin_133 rfl ?_
        refine hV.getf dX5_spin_134 fl_X5_7 M_o rfl ?_
        refine hV.bipush (v := 10) dX5_spin_137 (by decide) ?_
        refine hV.aload_n 2 dX5_spin_139 rfl ?_
        refine hV.getf dX5_spin_140 fl_X5_7 M_o rfl ?_
        refine hV.bipush (v := 14) dX5_spin_143 (by decide) ?_
        refine hV.iald (j := 14) dX5_spin_145 M_a0 ⟨by decide, by decide⟩ (by decide) ?_
        refine zTop (v := w 14) rfl ?_
        refine hV.iast (j := 10) dX5_spin_146 M_a0 ⟨by decide, by decide⟩ (by decide) M_p0 ?_
        refine hV.aload_n 2 dX5_spin_147 rfl ?_
        refine hV.getf dX5_spin_148 fl_X5_7 M_o rfl ?_
        refine hV.bipush (v := 9) dX5_spin_151 (by decide) ?_
        refine hV.dup2 dX5_spin_153 rfl rfl ?_
        refine hV.iald (j := 9) dX5_spin_154 M_a0 ⟨by decide, by decide⟩ (by decide) ?_
        refine zTop (v := w 9) rfl ?_
        refine hV.iconst (v := 1) dX5_spin_155 (by decide) ?_
        refine hV.iadd dX5_spin_156 ?_
        refine hV.iast (j := 9) dX5_spin_157 M_a0 ⟨by decide, by decide⟩ (by decide) M_p0 ?_
        refine hV.aload_n 2 dX5_spin_158 rfl ?_
        refine hV.getf dX5_spin_159 fl_X5_7 M_o rfl ?_
        refine hV.bipush (v := 11) dX5_spin_162 (by decide) ?_
        refine hV.aload_n 2 dX5_spin_164 rfl ?_
        refine hV.getf dX5_spin_165 fl_X5_7 M_o rfl ?_
        refine hV.bipush (v := 15) dX5_spin_168 (by decide) ?_
        refine hV.iald (j := 15) dX5_spin_170 M_a0 ⟨by decide, by decide⟩ (by decide) ?_
        refine zTop (v := w 15) rfl ?_
        refine hV.iast (j := 11) dX5_spin_171 M_a0 ⟨by decide, by decide⟩ (by decide) M_p0 ?_
        exact hE.2.2.2 dX5_spin_172 rfl (by decide) (by decide) (zRv (by have e : spZ (μ 0) = spZ4 w := (by unfold spZ spZm; rw [hw]; simp [c0]); rw [e]; unfold spZ4; rw [if_pos c113_1, if_pos c130_2]; simp [up2_sa, sa_z, sa_at]) rfl)
      · refine hV.icmp_ne_t (tgt := 172) dX5_spin_130 (by decide) c130_2 ?_
        exact hE.2.2.2 dX5_spin_172 rfl (by decide) (by decide) (zRv (by have e : spZ (μ 0) = spZ4 w := (by unfold spZ spZm; rw [hw]; simp [c0]); rw [e]; unfold spZ4; rw [if_pos c113_1, if_neg c130_2]; simp [up2_sa, sa_z, sa_at]) rfl)
    · refine hV.icmp_ne_t (tgt := 172) dX5_spin_113 (by decide) c113_1 ?_
      exact hE.2.2.2 dX5_spin_172 rfl (by decide) (by decide) (zRv (by have e : spZ (μ 0) = spZ4 w := (by unfold spZ spZm; rw [hw]; simp [c0]); rw [e]; unfold spZ4; rw [if_neg c113_1]; simp [up2_sa, sa_z, sa_at]) rfl)
  · skip
    refine hV.aload_n 0 dX5_spin_0 rfl ?_
    refine hV.getf dX5_spin_1 fl_X5_7 M_o rfl ?_
    refine hV.bipush (v := 7) dX5_spin_4 (by decide) ?_
    refine hV.dup2 dX5_spin_6 rfl rfl ?_
    refine hV.iald (j := 7) dX5_spin_7 M_a0 ⟨by decide, by decide⟩ (by decide) ?_
    refine hV.iconst (v := 1) dX5_spin_8 (by decide) ?_
    refine hV.isub dX5_spin_9 ?_
    refine hV.iast (j := 7) dX5_spin_10 M_a0 ⟨by decide, by decide⟩ (by decide) M_p0 ?_
    refine hV.aload_n 0 dX5_spin_11 rfl ?_
    refine hV.getf dX5_spin_12 fl_X5_7 M_o rfl ?_
    refine hV.bipush (v := 8) dX5_spin_15 (by decide) ?_
    refine hV.dup2 dX5_spin_17 rfl rfl ?_
    refine hV.iald (j := 8) dX5_spin_18 M_a0 ⟨by decide, by decide⟩ (by decide) ?_
    refine zTop (v := μ 0 8) rfl ?_
    refine hV.iconst (v := 1) dX5_spin_19 (by decide) ?_
    refine hV.iadd dX5_spin_20 ?_
    refine hV.iast (j := 8) dX5_spin_21 M_a0 ⟨by decide, by decide⟩ (by decide) M_p0 ?_
    refine zHeap (h2 := setM h b φ (sa μ 0 (spZ1 (μ 0)))) (by simp [up2_sa, sa_z, sa_at, spZ1, c0]) ?_
    refine hV.aload_n 0 dX5_spin_22 rfl ?_
    refine hV.getf dX5_spin_23 fl_X5_7 M_o rfl ?_
    refine hV.bipush (v := 11) dX5_spin_26 (by decide) ?_
    refine hV.iald (j := 11) dX5_spin_28 M_a0 ⟨by decide, by decide⟩ (by decide) ?_
    refine zTop (v := (spZ1 (μ 0)) 11) rfl ?_
    refine hV.if_le_f (tgt := 36) dX5_spin_29 (by decide) c0 ?_
    refine hV.iconst (v := 4) dX5_spin_32 (by decide) ?_
    refine hV.goto (tgt := 38) dX5_spin_33 (by decide) ?_
    refine hV.istore_n (ls2 := [(1, .int 4), (0, .ref b)]) dX5_spin_38 (by decide) rfl ?_
    refine hV.aload_n 1 dX5_spin_39 rfl ?_
    refine hV.getf dX5_spin_40 fl_X5_7 M_o rfl ?_
    refine hV.bipush (v := 11) dX5_spin_43 (by decide) ?_
    refine hV.dup2 dX5_spin_45 rfl rfl ?_
    refine hV.iald (j := 11) dX5_spin_46 M_a0 ⟨by decide, by decide⟩ (by decide) ?_
    refine zTop (v := (spZ1 (μ 0)) 11) rfl ?_
    refine hV.aload_n 1 dX5_spin_47 rfl ?_
    refine hV.getf dX5_spin_48 fl_X5_7 M_o rfl ?_
    refine hV.bipush (v := 11) dX5_spin_51 (by decide) ?_
    refine hV.iald (j := 11) dX5_spin_53 M_a0 ⟨by decide, by decide⟩ (by decide) ?_
    refine zTop (v := (spZ1 (μ 0)) 11) rfl ?_
    refine hV.if_le_f (tgt := 61) dX5_spin_54 (by decide) c0 ?_
    refine hV.iconst (v := 1) dX5_spin_57 (by decide) ?_
    refine hV.goto (tgt := 62) dX5_spin_58 (by decide) ?_
    refine hV.isub dX5_spin_62 ?_
    refine hV.iast (j := 11) dX5_spin_63 M_a0 ⟨by decide, by decide⟩ (by decide) M_p0 ?_
    refine hV.iconst (v := 0) dX5_spin_64 (by decide) ?_
    refine hV.istore_n (ls2 := [(2, .int 0), (1, .int 4), (0, .ref b)]) dX5_spin_65 (by decide) rfl ?_
    refine zHeap (h2 := setM h b φ (sa μ 0 (spZ2 (spZ1 (μ 0))))) (by simp [up2_sa, sa_z, sa_at, spZ2, c0]) ?_
    refine hV.iload_n 0 dX5_spin_66 rfl ?_
    refine hV.iconst (v := 3) dX5_spin_67 (by decide) ?_
    refine hV.icmp_ge_f (tgt := 91) dX5_spin_68 (by decide) (by decide) ?_
    refine hV.aload_n 2 dX5_spin_71 rfl ?_
    refine hV.getf dX5_spin_72 fl_X5_7 M_o rfl ?_
    refine hV.bipush (v := 17) dX5_spin_75 (by decide) ?_
    refine hV.iload_n 0 dX5_spin_77 rfl ?_
    refine hV.iadd dX5_spin_78 ?_
    refine zTop (v := 17) (by decide) ?_
    refine hV.aload_n 2 dX5_spin_79 rfl ?_
    refine hV.iload_n 1 dX5_spin_80 rfl ?_
    refine hV.callV1 (rest := [.int 17, .ref (b + 1)]) dX5_spin_81 (c_X5_draw G (m := 4) (by decide)) my_X5_draw kv_X5_82 M_o rfl rfl rfl (Nat.le_of_ble_eq_true rfl) (Nat.le_of_ble_eq_true rfl) (Nat.le_of_ble_eq_true rfl) (Nat.le_of_ble_eq_true rfl) (Nat.le_of_ble_eq_true rfl) (st2 := [.int (drZ (spZ2 (spZ1 (μ 0))) 4), .int 17, .ref (b + 1)]) (k2 := 0) (g2 := 0) rfl rfl rfl ?_
    refine zHeap (h2 := setM h b φ (sa μ 0 (dZ (spZ2 (spZ1 (μ 0)))))) (by rw [sa_z]; rfl) ?_
    refine hV.iast (j := 17) dX5_spin_84 M_a0 ⟨by decide, by decide⟩ (by decide) M_p0 ?_
    refine hV.iinc 0 (v := 1) (ls2 := [(2, .int 1), (1, .int 4), (0, .ref b)]) dX5_spin_85 rfl (by decide) (by decide) rfl ?_
    refine hV.goto (tgt := 66) dX5_spin_88 (by decide) ?_
    refine hV.iload_n 0 dX5_spin_66 rfl ?_
    refine hV.iconst (v := 3) dX5_spin_67 (by decide) ?_
    refine hV.icmp_ge_f (tgt := 91) dX5_spin_68 (by decide) (by decide) ?_
    refine hV.aload_n 2 dX5_spin_71 rfl ?_
    refine hV.getf dX5_spin_72 fl_X5_7 M_o rfl ?_
    refine hV.bipush (v := 17) dX5_spin_75 (by decide) ?_
    refine hV.iload_n 0 dX5_spin_77 rfl ?_
    refine hV.iadd dX5_spin_78 ?_
    refine zTop (v := 18) (by decide) ?_
    refine hV.aload_n 2 dX5_spin_79 rfl ?_
    refine hV.iload_n 1 dX5_spin_80 rfl ?_
    refine zHeap (h2 := setM h b φ (sa μ 0 (va_up (dZ (spZ2 (spZ1 (μ 0)))) 17 (drZ (spZ2 (spZ1 (μ 0))) 4)))) (by simp only [up2_sa, sa_z, sa_at]; try rfl) ?_
    refine hV.callV1 (rest := [.int 18, .ref (b + 1)]) dX5_spin_81 (c_X5_draw G (m := 4) (by decide)) my_X5_draw kv_X5_82 M_o rfl rfl rfl (Nat.le_of_ble_eq_true rfl) (Nat.le_of_ble_eq_true rfl) (Nat.le_of_ble_eq_true rfl) (Nat.le_of_ble_eq_true rfl) (Nat.le_of_ble_eq_true rfl) (st2 := [.int (drZ (va_up (dZ (spZ2 (spZ1 (μ 0)))) 17 (drZ (spZ2 (spZ1 (μ 0))) 4)) 4), .int 18, .ref (b + 1)]) (k2 := 0) (g2 := 0) rfl rfl rfl ?_
    refine zHeap (h2 := setM h b φ (sa μ 0 (dZ (va_up (dZ (spZ2 (spZ1 (μ 0)))) 17 (drZ (spZ2 (spZ1 (μ 0))) 4))))) (by rw [sa_z]; rfl) ?_
    refine hV.iast (j := 18) dX5_spin_84 M_a0 ⟨by decide, by decide⟩ (by decide) M_p0 ?_
    refine hV.iinc 0 (v := 2) (ls2 := [(2, .int 2), (1, .int 4), (0, .ref b)]) dX5_spin_85 rfl (by decide) (by decide) rfl ?_
    refine hV.goto (tgt := 66) dX5_spin_88 (by decide) ?_
    refine hV.iload_n 0 dX5_spin_66 rfl ?_
    refine hV.iconst (v := 3) dX5_spin_67 (by decide) ?_
    refine hV.icmp_ge_f (tgt := 91) dX5_spin_68 (by decide) (by decide) ?_
    refine hV.aload_n 2 dX5_spin_71 rfl ?_
    refine hV.getf dX5_spin_72 fl_X5_7 M_o rfl ?_
    refine hV.bipush (v := 17) dX5_spin_75 (by decide) ?_
    refine hV.iload_n 0 dX5_spin_77 rfl ?_
    refine hV.iadd dX5_spin_78 ?_
    refine zTop (v := 19) (by decide) ?_
    refine hV.aload_n 2 dX5_spin_79 rfl ?_
    refine hV.iload_n 1 dX5_spin_80 rfl ?_
    refine zHeap (h2 := setM h b φ (sa μ 0 (va_up (dZ (va_up (dZ (spZ2 (spZ1 (μ 0)))) 17 (drZ (spZ2 (spZ1 (μ 0))) 4))) 18 (drZ (va_up (dZ (spZ2 (spZ1 (μ 0)))) 17 (drZ (spZ2 (spZ1 (μ 0))) 4)) 4)))) (by simp only [up2_sa, sa_z, sa_at]; try rfl) ?_
    refine hV.callV1 (rest := [.int 19, .ref (b + 1)]) dX5_spin_81 (c_X5_draw G (m := 4) (by decide)) my_X5_draw kv_X5_82 M_o rfl rfl rfl (Nat.le_of_ble_eq_true rfl) (Nat.le_of_ble_eq_true rfl) (Nat.le_of_ble_eq_true rfl) (Nat.le_of_ble_eq_true rfl) (Nat.le_of_ble_eq_true rfl) (st2 := [.int (drZ (va_up (dZ (va_up (dZ (spZ2 (spZ1 (μ 0)))) 17 (drZ (spZ2 (spZ1 (μ 0))) 4))) 18 (drZ (va_up (dZ (spZ2 (spZ1 (μ 0)))) 17 (drZ (spZ2 (spZ1 (μ 0))) 4)) 4)) 4), .int 19, .ref (b + 1)]) (k2 := 0) (g2 := 0) rfl rfl rfl ?_
    refine zHeap (h2 := setM h b φ (sa μ 0 (dZ (va_up (dZ (va_up (dZ (spZ2 (spZ1 (μ 0)))) 17 (drZ (spZ2 (spZ1 (μ 0))) 4))) 18 (drZ (va_up (dZ (spZ2 (spZ1 (μ 0)))) 17 (drZ (spZ2 (spZ1 (μ 0))) 4)) 4))))) (by rw [sa_z]; rfl) ?_
    refine hV.iast (j := 19) dX5_spin_84 M_a0 ⟨by decide, by decide⟩ (by decide) M_p0 ?_
    refine hV.iinc 0 (v := 3) (ls2 := [(2, .int 3), (1, .int 4), (0, .ref b)]) dX5_spin_85 rfl (by decide) (by decide) rfl ?_
    refine hV.goto (tgt := 66) dX5_spin_88 (by decide) ?_
    refine hV.iload_n 0 dX5_spin_66 rfl ?_
    refine hV.iconst (v := 3) dX5_spin_67 (by decide) ?_
    refine hV.icmp_ge_t (tgt := 91) dX5_spin_68 (by decide) (by decide) ?_
    refine zHeap (h2 := setM h b φ (sa μ 0 (va_up (dZ (va_up (dZ (va_up (dZ (spZ2 (spZ1 (μ 0)))) 17 (drZ (spZ2 (spZ1 (μ 0))) 4))) 18 (drZ (va_up (dZ (spZ2 (spZ1 (μ 0)))) 17 (drZ (spZ2 (spZ1 (μ 0))) 4)) 4))) 19 (drZ (va_up (dZ (va_up (dZ (spZ2 (spZ1 (μ 0)))) 17 (drZ (spZ2 (spZ1 (μ 0))) 4))) 18 (drZ (va_up (dZ (spZ2 (spZ1 (μ 0)))) 17 (drZ (spZ2 (spZ1 (μ 0))) 4)) 4)) 4)))) (by simp only [up2_sa, sa_z, sa_at]; try rfl) ?_
    refine zHeap (h2 := setM h b φ (sa μ 0 (spZ3 (spZ2 (spZ1 (μ 0))) 4))) rfl ?_
    obtain ⟨w, hw⟩ : ∃ w : zZ, w = spZ3 (spZ2 (spZ1 (μ 0))) 4 := ⟨_, rfl⟩
    rw [← hw]
    refine hV.aload_n 2 dX5_spin_91 rfl ?_
    refine hV.getf dX5_spin_92 fl_X5_7 M_o rfl ?_
    refine hV.bipush (v := 10) dX5_spin_95 (by decide) ?_
    refine hV.iconst (v := 0) dX5_spin_97 (by decide) ?_
    refine hV.iast (j := 10) dX5_spin_98 M_a0 ⟨by decide, by decide⟩ (by decide) M_p0 ?_
    refine hV.aload_n 2 dX5_spin_99 rfl ?_
    refine hV.getf dX5_spin_100 fl_X5_7 M_o rfl ?_
    refine hV.bipush (v := 17) dX5_spin_103 (by decide) ?_
    refine hV.iald (j := 17) dX5_spin_105 M_a0 ⟨by decide, by decide⟩ (by decide) ?_
    refine zTop (v := w 17) rfl ?_
    refine hV.aload_n 2 dX5_spin_106 rfl ?_
    refine hV.getf dX5_spin_107 fl_X5_7 M_o rfl ?_
    refine hV.bipush (v := 18) dX5_spin_110 (by decide) ?_
    refine hV.iald (j := 18) dX5_spin_112 M_a0 ⟨by decide, by decide⟩ (by decide) ?_
    refine zTop (v := w 18) rfl ?_
    by_cases c113_3 : (w 17) = (w 18)
    · refine hV.icmp_ne_f (tgt := 172) dX5_spin_113 (by decide) c113_3 ?_
      refine hV.aload_n 2 dX5_spin_116 rfl ?_
      refine hV.getf dX5_spin_117 fl_X5_7 M_o rfl ?_
      refine hV.bipush (v := 17) dX5_spin_120 (by decide) ?_
      refine hV.iald (j := 17) dX5_spin_122 M_a0 ⟨by decide, by decide⟩ (by decide) ?_
      refine zTop (v := w 17) rfl ?_
      refine hV.aload_n 2 dX5_spin_123 rfl ?_
      refine hV.getf dX5_spin_124 fl_X5_7 M_o rfl ?_
      refine hV.bipush (v := 19) dX5_spin_127 (by decide) ?_
      refine hV.iald (j := 19) dX5_spin_129 M_a0 ⟨by decide, by decide⟩ (by decide) ?_
      refine zTop (v := w 19) rfl ?_
      by_cases c130_4 : (w 17) = (w 19)
      · refine hV.icmp_ne_f (tgt := 172) dX5_spin_130 (by decide) c130_4 ?_
        refine hV.aload_n 2 dX5_spin_133 rfl ?_
        refine hV.getf dX5_spin_134 fl_X5_7 M_o rfl ?_
        refine hV.bipush (v := 10) dX5_spin_137 (by decide) ?_
        refine hV.aload_n 2 dX5_spin_139 rfl ?_
        refine hV.getf dX5_spin_140 fl_X5_7 M_o rfl ?_
        refine hV.bipush (v := 14) dX5_spin_143 (by decide) ?_
        refine hV.iald (j := 14) dX5_spin_145 M_a0 ⟨by decide, by decide⟩ (by decide) ?_
        refine zTop (v := w 14) rfl ?_
        refine hV.iast (j := 10) dX5_spin_146 M_a0 ⟨by decide, by decide⟩ (by decide) M_p0 ?_
        refine hV.aload_n 2 dX5_spin_147 rfl ?_
        refine hV.getf dX5_spin_148 fl_X5_7 M_o rfl ?_
        refine hV.bipush (v := 9) dX5_spin_151 (by decide) ?_
        refine hV.dup2 dX5_spin_153 rfl rfl ?_
        refine hV.iald (j := 9) dX5_spin_154 M_a0 ⟨by decide, by decide⟩ (by decide) ?_
        refine zTop (v := w 9) rfl ?_
        refine hV.iconst (v := 1) dX5_spin_155 (by decide) ?_
        refine hV.iadd dX5_spin_156 ?_
        refine hV.iast (j := 9) dX5_spin_157 M_a0 ⟨by decide, by decide⟩ (by decide) M_p0 ?_
        refine hV.aload_n 2 dX5_spin_158 rfl ?_
        refine hV.getf dX5_spin_159 fl_X5_7 M_o rfl ?_
        refine hV.bipush (v := 11) dX5_spin_162 (by decide) ?_
        refine hV.aload_n 2 dX5_spin_164 rfl ?_
        refine hV.getf dX5_spin_165 fl_X5_7 M_o rfl ?_
        refine hV.bipush (v := 15) dX5_spin_168 (by decide) ?_
        refine hV.iald (j := 15) dX5_spin_170 M_a0 ⟨by decide, by decide⟩ (by decide) ?_
        refine zTop (v := w 15) rfl ?_
        refine hV.iast (j := 11) dX5_spin_171 M_a0 ⟨by decide, by decide⟩ (by decide) M_p0 ?_
        exact hE.2.2.2 dX5_spin_172 rfl (by decide) (by decide) (zRv (by have e : spZ (μ 0) = spZ4 w := (by unfold spZ spZm; rw [hw]; simp [c0]); rw [e]; unfold spZ4; rw [if_pos c113_3, if_pos c130_4]; simp [up2_sa, sa_z, sa_at]) rfl)
      · refine hV.icmp_ne_t (tgt := 172) dX5_spin_130 (by decide) c130_4 ?_
        exact hE.2.2.2 dX5_spin_172 rfl (by decide) (by decide) (zRv (by have e : spZ (μ 0) = spZ4 w := (by unfold spZ spZm; rw [hw]; simp [c0]); rw [e]; unfold spZ4; rw [if_pos c113_3, if_neg c130_4]; simp [up2_sa, sa_z, sa_at]) rfl)
    · refine hV.icmp_ne_t (tgt := 172) dX5_spin_113 (by decide) c113_3 ?_
      exact hE.2.2.2 dX5_spin_172 rfl (by decide) (by decide) (zRv (by have e : spZ (μ 0) = spZ4 w := (by unfold spZ spZm; rw [hw]; simp [c0]); rw [e]; unfold spZ4; rw [if_neg c113_3]; simp [up2_sa, sa_z, sa_at]) rfl)

set_option maxRecDepth 100000 in
set_option maxHeartbeats 4000000 in
theorem c_X5_beside {l : Launch} {D : va_G} {base : Nat} (G : l.stackTraces = false) {h : zH} {n : Nat} {c : Nat} {s : Int32} (hc : c < 7) (hs : s = 1 ∨ s = -1) :
    zCt l D base 3 yX5_beside w_X5_beside [.int (nI c), .int s] (h) n 0 0 (zR (some (.int (nI (bnc c s)))) (h) n) := by
  refine zCt.of G (by decide) (Nat.le_of_ble_eq_true rfl) (fun Sx V X hV hE hX => ?_)
  show V 0 [(0, .int (nI c)), (1, .int s)] [] (h) n 0 0
  rcases hs with rfl | rfl
  · skip
    refine hV.iload_n 0 dX5_beside_0 rfl ?_
    refine hV.iload_n 1 dX5_beside_1 rfl ?_
    refine hV.iaddN (a := c) (b := 1) dX5_beside_2 ?_
    refine hV.callS1 (rest := []) dX5_beside_3 (c_X5_isColumn G) my_X5_isColumn ks_X5_61 rfl rfl (Nat.le_of_ble_eq_true rfl) (Nat.le_of_ble_eq_true rfl) (Nat.le_of_ble_eq_true rfl) (Nat.le_of_ble_eq_true rfl) (Nat.le_of_ble_eq_true rfl) (st2 := [.int (inV (nI (c + 1)) 0 6)]) (k2 := 0) (g2 := 0) rfl rfl rfl ?_
    by_cases c6_1 : (inV (nI (c + 1)) 0 6) = 0
    · refine hV.if_eq_t (tgt := 15) dX5_beside_6 (by decide) c6_1 ?_
      refine hV.iload_n 0 dX5_beside_15 rfl ?_
      exact hE.1 dX5_beside_16 rfl rfl (by decide) (by decide) (zRi (bnc_p0 hc c6_1) rfl rfl)
    · refine hV.if_eq_f (tgt := 15) dX5_beside_6 (by decide) c6_1 ?_
      refine hV.iload_n 0 dX5_beside_9 rfl ?_
      refine hV.iload_n 1 dX5_beside_10 rfl ?_
      refine hV.iaddN (a := c) (b := 1) dX5_beside_11 ?_
      refine hV.goto (tgt := 16) dX5_beside_12 (by decide) ?_
      exact hE.1 dX5_beside_16 rfl rfl (by decide) (by decide) (zRi (bnc_p1 hc c6_1) rfl rfl)
  · cases c with
    | zero =>
      show V 0 [(0, .int 0), (1, .int (-1))] [] (h) n 0 0
      refine hV.iload_n 0 dX5_beside_0 rfl ?_
      refine hV.iload_n 1 dX5_beside_1 rfl ?_
      refine hV.iadd dX5_beside_2 ?_
      refine zTop (v := (-1)) (by decide) ?_
      refine hV.callS1 (rest := []) dX5_beside_3 (c_X5_isColumn G) my_X5_isColumn ks_X5_61 rfl rfl (Nat.le_of_ble_eq_true rfl) (Nat.le_of_ble_eq_true rfl) (Nat.le_of_ble_eq_true rfl) (Nat.le_of_ble_eq_true rfl) (Nat.le_of_ble_eq_true rfl) (st2 := [.int (inV (-1) 0 6)]) (k2 := 0) (g2 := 0) rfl rfl rfl ?_
      by_cases c6_2 : (inV (-1) 0 6) = 0
      · refine hV.if_eq_t (tgt := 15) dX5_beside_6 (by decide) c6_2 ?_
        refine hV.iload_n 0 dX5_beside_15 rfl ?_
        exact hE.1 dX5_beside_16 rfl rfl (by decide) (by decide) (zRi (by first | rfl | exact absurd c6_2 (by decide)) rfl rfl)
      · refine hV.if_eq_f (tgt := 15) dX5_beside_6 (by decide) c6_2 ?_
        refine hV.iload_n 0 dX5_beside_9 rfl ?_
        refine hV.iload_n 1 dX5_beside_10 rfl ?_
        refine hV.iadd dX5_beside_11 ?_
        refine zTop (v := (-1)) (by decide) ?_
        refine hV.goto (tgt := 16) dX5_beside_12 (by decide) ?_
        exact hE.1 dX5_beside_16 rfl rfl (by decide) (by decide) (zRi (by first | rfl | exact absurd c6_2 (by decide)) rfl rfl)
    | succ c =>
      refine hV.iload_n 0 dX5_beside_0 rfl ?_
      refine hV.iload_n 1 dX5_beside_1 rfl ?_
      refine hV.iadd dX5_beside_2 ?_
      refine zTop (v := nI c) (zI_m1 c) ?_
      refine hV.callS1 (rest := []) dX5_beside_3 (c_X5_isColumn G) my_X5_isColumn ks_X5_61 rfl rfl (Nat.le_of_ble_eq_true rfl) (Nat.le_of_ble_eq_true rfl) (Nat.le_of_ble_eq_true rfl) (Nat.le_of_ble_eq_true rfl) (Nat.le_of_ble_eq_true rfl) (st2 := [.int (inV (nI c) 0 6)]) (k2 := 0) (g2 := 0) rfl rfl rfl ?_
      by_cases c6_3 : (inV (nI c) 0 6) = 0
      · refine hV.if_eq_t (tgt := 15) dX5_beside_6 (by decide) c6_3 ?_
        refine hV.iload_n 0 dX5_beside_15 rfl ?_
        exact hE.1 dX5_beside_16 rfl rfl (by decide) (by decide) (zRi (by first | (simp [bnc]; done) | exact absurd c6_3 (by rw [inV_c6 (by omega)]; decide)) rfl rfl)
      · refine hV.if_eq_f (tgt := 15) dX5_beside_6 (by decide) c6_3 ?_
        refine hV.iload_n 0 dX5_beside_9 rfl ?_
        refine hV.iload_n 1 dX5_beside_10 rfl ?_
        refine hV.iadd dX5_beside_11 ?_
        refine zTop (v := nI c) (zI_m1 c) ?_
        refine hV.goto (tgt := 16) dX5_beside_12 (by decide) ?_
        exact hE.1 dX5_beside_16 rfl rfl (by decide) (by decide) (zRi (by first | (simp [bnc]; done) | exact absurd c6_3 (by rw [inV_c6 (by omega)]; decide)) rfl rfl)

set_option maxRecDepth 100000 in
set_option maxHeartbeats 4000000 in
theorem c_X5_fall {l : Launch} {D : va_G} {base : Nat} (G : l.stackTraces = false) {h : zH} {n : Nat} {b : Nat} {μ : zB} {φ : Nat → Int32} {c : Nat} (hc : c < 7) (hx0 : xOk (μ 0)) (hp0 : pinZ (μ 0)) :
    zCt l D base 4 yX5_fall w_X5_fall [.ref b, .int (nI c)] (setM h b φ μ) n 0 0 (zR (some (.int (nI ((falN (μ 0) c 8).2)))) (setM h b φ (sa μ 0 ((falN (μ 0) c 8).1))) n) := by
  refine zCt.of G (by decide) (Nat.le_of_ble_eq_true rfl) (fun Sx V X hV hE hX => ?_)
  show V 0 [(0, .ref b), (1, .int (nI c))] [] (setM h b φ μ) n 0 0
  refine zHeap (h2 := setM h b φ (sa μ 0 (μ 0))) (by rw [sa_self]) ?_
  refine hV.iload_n 1 dX5_fall_0 rfl ?_
  refine hV.istore_n (ls2 := [(2, .int (nI c)), (0, .ref b), (1, .int (nI c))]) dX5_fall_1 (by decide) rfl ?_
  refine hV.iconst (v := 0) dX5_fall_2 (by decide) ?_
  refine hV.istore_n (ls2 := [(3, .int 0), (2, .int (nI c)), (0, .ref b), (1, .int (nI c))]) dX5_fall_3 (by decide) rfl ?_
  have loop : ∀ (k j : Nat) (z : zZ) (c2 : Nat), j + k = 8 → ((z, c2) = falN (μ 0) c j) → (c2 < 7) → (xOk z) → (pinZ z) → V 4 [(3, .int (nI j)), (2, .int (nI c2)), (0, .ref b), (1, .int (nI c))] [] (setM h b φ (sa μ 0 z)) n 0 0 := by
    intro k
    induction k with
    | zero =>
      intro j z c2 hj he hc2 hx hpin
      refine hV.iload_n 0 dX5_fall_4 rfl ?_
      refine hV.bipush (v := 8) dX5_fall_5 (by decide) ?_
      refine hV.icmp_ge_t (tgt := 67) dX5_fall_7 (by decide) ((nI_leI (a := 8) (b := j) (by omega) (by omega)).mpr (by omega)) ?_
      refine hV.iload_n 1 dX5_fall_67 rfl ?_
      exact hE.1 dX5_fall_68 rfl rfl (by decide) (by decide) (zRi (by have e : j = 8 := (by omega); subst e; rw [← he]) (by have e : j = 8 := (by omega); subst e; rw [← he]) rfl)
    | succ k ih =>
      intro j z c2 hj he hc2 hx hpin
      have hj9 : j < 8 := by omega
      refine hV.iload_n 0 dX5_fall_4 rfl ?_
      refine hV.bipush (v := 8) dX5_fall_5 (by decide) ?_
      refine hV.icmp_ge_f (tgt := 67) dX5_fall_7 (by decide) (fun q => absurd ((nI_leI (a := 8) (b := j) (by omega) (by omega)).mp q) (by omega)) ?_
      refine hV.bipush (v := 7) dX5_fall_10 (by decide) ?_
      refine hV.iload_n 0 dX5_fall_12 rfl ?_
      refine hV.imulN (a := 7) (b := j) dX5_fall_13 ?_
      refine hV.iload_n 1 dX5_fall_14 rfl ?_
      refine hV.iaddN (a := 7 * j) (b := c2) dX5_fall_15 ?_
      refine hV.istore (ls2 := [(4, .int (nI ((7 * j) + c2))), (3, .int (nI j)), (2, .int (nI c2)), (0, .ref b), (1, .int (nI c))]) dX5_fall_16 (by decide) rfl ?_
      refine hV.aload_n 3 dX5_fall_18 rfl ?_
      refine hV.getf dX5_fall_19 fl_X5_7 M_o rfl ?_
      refine hV.sipush (v := 167) dX5_fall_22 (by decide) ?_
      refine hV.iload_n 1 dX5_fall_25 rfl ?_
      refine hV.iaddN (a := 167) (b := j) dX5_fall_26 ?_
      refine hV.iload 0 dX5_fall_27 rfl ?_
      refine hV.iast (j := 167 + j) dX5_fall_29 M_a0 (zix_nI (by omega)) (by omega) M_p0 ?_
      refine hV.aload_n 3 dX5_fall_30 rfl ?_
      refine hV.iload 0 dX5_fall_31 rfl ?_
      refine zHeap (h2 := setM h b φ (sa μ 0 (va_up z (167 + j) (nI ((7 * j) + c2))))) (by simp only [up2_sa, sa_z, sa_at]; try rfl) ?_
      refine hV.callV1 (rest := []) dX5_fall_33 (c_X5_lean G (i := (7 * j) + c2) (by omega)) my_X5_lean kv_X5_53 M_o rfl rfl rfl (Nat.le_of_ble_eq_true rfl) (Nat.le_of_ble_eq_true rfl) (Nat.le_of_ble_eq_true rfl) (Nat.le_of_ble_eq_true rfl) (Nat.le_of_ble_eq_true rfl) (st2 := [.int ((va_up z (167 + j) (nI ((7 * j) + c2))) (20 + ((7 * j) + c2)))]) (k2 := 0) (g2 := 0) rfl rfl rfl ?_
      refine hV.istore (ls2 := [(5, .int ((va_up z (167 + j) (nI ((7 * j) + c2))) (20 + ((7 * j) + c2)))), (4, .int (nI ((7 * j) + c2))), (3, .int (nI j)), (2, .int (nI c2)), (0, .ref b), (1, .int (nI c))]) dX5_fall_36 (by decide) rfl ?_
      refine hV.iload 0 dX5_fall_38 rfl ?_
      by_cases c40_1 : ((va_up z (167 + j) (nI ((7 * j) + c2))) (20 + ((7 * j) + c2))) = 0
      · refine hV.if_ne_f (tgt := 54) dX5_fall_40 (by decide) c40_1 ?_
        refine hV.iconst (v := 2) dX5_fall_43 (by decide) ?_
        refine hV.aload_n 4 dX5_fall_44 rfl ?_
        refine hV.iconst (v := 2) dX5_fall_45 (by decide) ?_
        refine hV.callV1 (rest := [.int 2]) dX5_fall_46 (c_X5_draw G (m := 2) (by decide)) my_X5_draw kv_X5_82 M_o rfl rfl rfl (Nat.le_of_ble_eq_true rfl) (Nat.le_of_ble_eq_true rfl) (Nat.le_of_ble_eq_true rfl) (Nat.le_of_ble_eq_true rfl) (Nat.le_of_ble_eq_true rfl) (st2 := [.int (drZ (va_up z (167 + j) (nI ((7 * j) + c2))) 2), .int 2]) (k2 := 0) (g2 := 0) rfl rfl rfl ?_
        refine zHeap (h2 := setM h b φ (sa μ 0 (dZ (va_up z (167 + j) (nI ((7 * j) + c2)))))) (by rw [sa_z]; rfl) ?_
        refine hV.imul dX5_fall_49 ?_
        refine hV.iconst (v := 1) dX5_fall_50 (by decide) ?_
        refine hV.isub dX5_fall_51 ?_
        refine hV.istore (ls2 := [(5, .int ((2 * (drZ (va_up z (167 + j) (nI ((7 * j) + c2))) 2)) - 1)), (4, .int (nI ((7 * j) + c2))), (3, .int (nI j)), (2, .int (nI c2)), (0, .ref b), (1, .int (nI c))]) dX5_fall_52 (by decide) rfl ?_
        refine hV.iload_n 3 dX5_fall_54 rfl ?_
        refine hV.iload 0 dX5_fall_55 rfl ?_
        refine hV.callS1 (rest := []) dX5_fall_57 (c_X5_beside G (c := c2) (s := (2 * (drZ (va_up z (167 + j) (nI ((7 * j) + c2))) 2)) - 1) (by omega) (drZ_2 (xOk_up hx (by omega)))) my_X5_beside ks_X5_85 rfl rfl (Nat.le_of_ble_eq_true rfl) (Nat.le_of_ble_eq_true rfl) (Nat.le_of_ble_eq_true rfl) (Nat.le_of_ble_eq_true rfl) (Nat.le_of_ble_eq_true rfl) (st2 := [.int (nI (bnc c2 ((2 * (drZ (va_up z (167 + j) (nI ((7 * j) + c2))) 2)) - 1)))]) (k2 := 0) (g2 := 0) rfl rfl rfl ?_
        have hbn2 := bnc_lt (c := c2) (s := (2 * (drZ (va_up z (167 + j) (nI ((7 * j) + c2))) 2)) - 1) (by omega)
        refine hV.istore_n (ls2 := [(2, .int (nI (bnc c2 ((2 * (drZ (va_up z (167 + j) (nI ((7 * j) + c2))) 2)) - 1)))), (5, .int ((2 * (drZ (va_up z (167 + j) (nI ((7 * j) + c2))) 2)) - 1)), (4, .int (nI ((7 * j) + c2))), (3, .int (nI j)), (0, .ref b), (1, .int (nI c))]) dX5_fall_60 (by decide) rfl ?_
        refine hV.iinc 3 (v := nI (j + 1)) (ls2 := [(3, .int (nI (j + 1))), (2, .int (nI (bnc c2 ((2 * (drZ (va_up z (167 + j) (nI ((7 * j) + c2))) 2)) - 1)))), (5, .int ((2 * (drZ (va_up z (167 + j) (nI ((7 * j) + c2))) 2)) - 1)), (4, .int (nI ((7 * j) + c2))), (0, .ref b), (1, .int (nI c))]) dX5_fall_61 rfl (nI_1 _) (by decide) rfl ?_
        refine hV.goto (tgt := 4) dX5_fall_64 (by decide) ?_
        refine hV.pick [0, 1, 4, 5] (ls2 := [(3, .int (nI (j + 1))), (2, .int (nI (bnc c2 ((2 * (drZ (va_up z (167 + j) (nI ((7 * j) + c2))) 2)) - 1)))), (0, .ref b), (1, .int (nI c))]) rfl ?_
        exact ih (j + 1) _ _ (by omega) (by show _ = falS (falN (μ 0) c j).1 j (falN (μ 0) c j).2; rw [← he]; unfold falS; rw [if_pos (by have e9 := c40_1; rw [va_up_20 j c2 hc2 hj9] at e9; exact e9)]) (bnc_lt hc2) (xOk_d (xOk_up hx (by omega))) (fun i hi => by simp only [dZ, va_up]; rw [if_neg (by omega), if_neg (by omega)]; exact hpin i hi)
      · refine hV.if_ne_t (tgt := 54) dX5_fall_40 (by decide) c40_1 ?_
        refine hV.iload_n 3 dX5_fall_54 rfl ?_
        refine hV.iload 0 dX5_fall_55 rfl ?_
        refine hV.callS1 (rest := []) dX5_fall_57 (c_X5_beside G (c := c2) (s := (va_up z (167 + j) (nI ((7 * j) + c2))) (20 + ((7 * j) + c2))) (by omega) (pinne (by rw [va_up_20 j c2 hc2 hj9]; exact hpin _ (by omega)) c40_1)) my_X5_beside ks_X5_85 rfl rfl (Nat.le_of_ble_eq_true rfl) (Nat.le_of_ble_eq_true rfl) (Nat.le_of_ble_eq_true rfl) (Nat.le_of_ble_eq_true rfl) (Nat.le_of_ble_eq_true rfl) (st2 := [.int (nI (bnc c2 ((va_up z (167 + j) (nI ((7 * j) + c2))) (20 + ((7 * j) + c2)))))]) (k2 := 0) (g2 := 0) rfl rfl rfl ?_
        have hbn3 := bnc_lt (c := c2) (s := (va_up z (167 + j) (nI ((7 * j) + c2))) (20 + ((7 * j) + c2))) (by omega)
        refine hV.istore_n (ls2 := [(2, .int (nI (bnc c2 ((va_up z (167 + j) (nI ((7 * j) + c2))) (20 + ((7 * j) + c2)))))), (5, .int ((va_up z (167 + j) (nI ((7 * j) + c2))) (20 + ((7 * j) + c2)))), (4, .int (nI ((7 * j) + c2))), (3, .int (nI j)), (0, .ref b), (1, .int (nI c))]) dX5_fall_60 (by decide) rfl ?_
        refine hV.iinc 3 (v := nI (j + 1)) (ls2 := [(3, .int (nI (j + 1))), (2, .int (nI (bnc c2 ((va_up z (167 + j) (nI ((7 * j) + c2))) (20 + ((7 * j) + c2)))))), (5, .int ((va_up z (167 + j) (nI ((7 * j) + c2))) (20 + ((7 * j) + c2)))), (4, .int (nI ((7 * j) + c2))), (0, .ref b), (1, .int (nI c))]) dX5_fall_61 rfl (nI_1 _) (by decide) rfl ?_
        refine hV.goto (tgt := 4) dX5_fall_64 (by decide) ?_
        refine hV.pick [0, 1, 4, 5] (ls2 := [(3, .int (nI (j + 1))), (2, .int (nI (bnc c2 ((va_up z (167 + j) (nI ((7 * j) + c2))) (20 + ((7 * j) + c2)))))), (0, .ref b), (1, .int (nI c))]) rfl ?_
        exact ih (j + 1) _ _ (by omega) (by show _ = falS (falN (μ 0) c j).1 j (falN (μ 0) c j).2; rw [← he]; unfold falS; rw [if_neg (by have e9 := c40_1; rw [va_up_20 j c2 hc2 hj9] at e9; exact e9)]; simp only [va_up_20 j c2 hc2 hj9]) (bnc_lt hc2) (xOk_up hx (by omega)) (fun i hi => by simp only [va_up]; rw [if_neg (by omega)]; exact hpin i hi)
  exact loop (8) 0 (μ 0) c (by omega) rfl hc hx0 hp0
