/-! The ways by all 256 paths are the ways row by row -/
theorem nI_shrj {b j : Nat} (hb : b < 2 ^ 31) (hj : j < 8) : nI b >>> (nI j &&& 31) = nI (b / 2 ^ j) := by
  apply Int32.toBitVec_inj.mp
  have key : (nI b >>> (nI j &&& 31)).toBitVec = (BitVec.ofNat 32 b).sshiftRight j := by
    rcases (show j = 0 ∨ j = 1 ∨ j = 2 ∨ j = 3 ∨ j = 4 ∨ j = 5 ∨ j = 6 ∨ j = 7 by omega) with rfl | rfl | rfl | rfl | rfl | rfl | rfl | rfl <;> rfl
  rw [key, BitVec.sshiftRight_eq_of_msb_false (by rw [BitVec.msb_eq_false_iff_two_mul_lt, BitVec.toNat_ofNat]; omega)]
  apply BitVec.eq_of_toNat_eq
  have h1 : b / 2 ^ j ≤ b := Nat.div_le_self _ _
  rw [BitVec.toNat_ushiftRight, BitVec.toNat_ofNat, Nat.shiftRight_eq_div_pow, Nat.mod_eq_of_lt (by omega)]
  show _ = (BitVec.ofNat 32 (b / 2 ^ j)).toNat
  rw [BitVec.toNat_ofNat, Nat.mod_eq_of_lt (by omega)]
theorem nI_and1 {x : Nat} (hx : x < 2 ^ 31) : nI x &&& 1 = nI (x % 2) := by
  apply Int32.toBitVec_inj.mp
  show BitVec.ofNat 32 x &&& 1#32 = BitVec.ofNat 32 (x % 2)
  apply BitVec.eq_of_toNat_eq
  rw [BitVec.toNat_and, BitVec.toNat_ofNat, BitVec.toNat_ofNat, Nat.mod_eq_of_lt (by omega)]
  show x &&& 1 = _
  rw [Nat.and_one_is_mod]
  show x % 2 = x % 2 % 2 ^ 32
  omega
def bI (i : Nat) : Int32 := if i % 2 = 1 then 1 else -1
theorem bitL_bI {i j : Nat} (hi : i < 2 ^ 31) (hj : j < 8) : bitL i j = bI (i / 2 ^ j) := by
  have h1 : i / 2 ^ j ≤ i := Nat.div_le_self _ _
  unfold bitL bI
  rw [nI_shrj hi hj, nI_and1 (by omega)]
  rcases Nat.mod_two_eq_zero_or_one (i / 2 ^ j) with e | e <;> rw [e] <;> rfl
def pE (f : Nat → Int32) : Nat → Nat → Nat → Int32 → Nat × Int32
  | 0, _, c, s => (c, s)
  | d + 1, i, c, s => pE f d (i / 2) (bnc c (bI i)) (ptI s (f ((7 - d) * 7 + c)) (bI i))
theorem ptL_pE {f : Nat → Int32} {i c : Nat} (hi : i < 256) : ∀ j, j ≤ 8 → pE f 8 i c 1 = pE f (8 - j) (i / 2 ^ j) (ptL f i c j).1 (ptL f i c j).2
  | 0, _ => by rw [Nat.pow_zero, Nat.div_one]; rfl
  | j + 1, hj => by
    rw [ptL_pE hi j (by omega), show 8 - j = (8 - (j + 1)) + 1 by omega]
    show pE f (8 - (j + 1)) _ _ _ = pE f (8 - (j + 1)) _ (bnc (ptL f i c j).1 (bitL i j)) (ptI (ptL f i c j).2 (f ((7 * j) + (ptL f i c j).1)) (bitL i j))
    rw [bitL_bI (by omega) (by omega), Nat.div_div_eq_div_mul, ← Nat.pow_succ, show 7 - (8 - (j + 1)) = j by omega, Nat.mul_comm j 7]
def sI (F : Nat → Int32) : Nat → Int32
  | 0 => 0
  | n + 1 => sI F n + F n
theorem sI_ext {F G : Nat → Int32} : ∀ {n : Nat}, (∀ i, i < n → F i = G i) → sI F n = sI G n
  | 0, _ => rfl
  | n + 1, h => by
    show sI F n + F n = sI G n + G n
    rw [sI_ext (fun i hi => h i (by omega)), h n (by omega)]
theorem sI_add {A C : Nat → Int32} : ∀ n, sI (fun i => A i + C i) n = sI A n + sI C n
  | 0 => rfl
  | n + 1 => by
    show sI (fun i => A i + C i) n + (A n + C n) = (sI A n + A n) + (sI C n + C n)
    rw [sI_add n]
    ac_rfl
theorem sI_two {F : Nat → Int32} : ∀ n, sI F (2 * n) = sI (fun i => F (2 * i) + F (2 * i + 1)) n
  | 0 => rfl
  | n + 1 => by
    show (sI F (2 * n) + F (2 * n)) + F (2 * n + 1) = sI (fun i => F (2 * i) + F (2 * i + 1)) n + (F (2 * n) + F (2 * n + 1))
    rw [sI_two n, Int32.add_assoc]
def wq (q : Nat × Int32) (k : Nat) : Int32 := if k = q.1 then wyI q.2 else 0
theorem pE_2 {f : Nat → Int32} {d i c : Nat} {s : Int32} : pE f (d + 1) (2 * i) c s = pE f d i (bnc c (-1)) (ptI s (f ((7 - d) * 7 + c)) (-1)) := by
  show pE f d (2 * i / 2) (bnc c (bI (2 * i))) _ = _
  have e : bI (2 * i) = -1 := by unfold bI; rw [if_neg (by omega)]
  rw [e, show 2 * i / 2 = i by omega]
theorem pE_3 {f : Nat → Int32} {d i c : Nat} {s : Int32} : pE f (d + 1) (2 * i + 1) c s = pE f d i (bnc c 1) (ptI s (f ((7 - d) * 7 + c)) 1) := by
  show pE f d ((2 * i + 1) / 2) (bnc c (bI (2 * i + 1))) _ = _
  have e : bI (2 * i + 1) = 1 := by unfold bI; rw [if_pos (by omega)]
  rw [e, show (2 * i + 1) / 2 = i by omega]
theorem ptI_0 {q b : Int32} : ptI 0 q b = 0 := if_pos rfl
theorem ptI_m {s q : Int32} (hs : ¬ s = 0) (hq : q = 0 ∨ q = 1 ∨ q = -1) : (ptI s q (-1) = 0) ↔ 0 < q := by
  unfold ptI
  rw [if_neg hs]
  rcases hq with e | e | e <;> rw [e] <;> decide
theorem ptI_p {s q : Int32} (hs : ¬ s = 0) (hq : q = 0 ∨ q = 1 ∨ q = -1) : (ptI s q 1 = 0) ↔ q < 0 := by
  unfold ptI
  rw [if_neg hs]
  rcases hq with e | e | e <;> rw [e] <;> decide
theorem pE_W {f : Nat → Int32} (hf : ∀ i, i < 56 → f i = 0 ∨ f i = 1 ∨ f i = -1) {k : Nat} : ∀ (d c : Nat) (s : Int32), d ≤ 8 → c < 7 → sI (fun i => wq (pE f d i c s) k) (2 ^ d) = if s = 0 then 0 else goW f d c k
  | 0, c, s, _, _ => by
    show (0 : Int32) + wq (c, s) k = if s = 0 then 0 else if k = c then 1 else 0
    unfold wq wyI
    rw [Int32.zero_add]
    show (if k = c then (if s = 0 then 0 else 1) else 0) = _
    by_cases h1 : s = 0
    · rw [if_pos h1, if_pos h1]
      split <;> rfl
    · rw [if_neg h1, if_neg h1]
  | d + 1, c, s, hd, hc => by
    rw [show 2 ^ (d + 1) = 2 * 2 ^ d by rw [Nat.pow_succ, Nat.mul_comm], sI_two]
    simp only [pE_2, pE_3]
    rw [sI_add, pE_W hf d _ _ (by omega) (bnc_lt hc), pE_W hf d _ _ (by omega) (bnc_lt hc)]
    by_cases h1 : s = 0
    · rw [h1, ptI_0, ptI_0]
      rfl
    · have hq := hf ((7 - d) * 7 + c) (by omega)
      rw [if_neg h1]
      simp only [goW, ptI_m h1 hq, ptI_p h1 hq]
theorem alN_ad {A C : Nat → Int32} : ∀ n, alN (fun k => A k + C k) n = alN A n + alN C n
  | 0 => rfl
  | n + 1 => by
    show alN (fun k => A k + C k) n + (A n + C n) = (alN A n + A n) + (alN C n + C n)
    rw [alN_ad n]
    ac_rfl
theorem alN_0 : ∀ n, alN (fun _ => 0) n = 0
  | 0 => rfl
  | n + 1 => by
    show alN (fun _ => 0) n + 0 = 0
    rw [alN_0 n]
    rfl
theorem alN_1 {c : Nat} : ∀ n, alN (fun k => if k = c then 1 else 0) n = if c < n then 1 else 0
  | 0 => rfl
  | n + 1 => by
    show alN (fun k => if k = c then 1 else 0) n + (if n = c then 1 else 0) = _
    rw [alN_1 n]
    by_cases h1 : c < n
    · rw [if_pos h1, if_neg (by omega), if_pos (by omega)]
      rfl
    · rw [if_neg h1]
      by_cases h2 : n = c
      · rw [if_pos h2, if_pos (by omega)]
        rfl
      · rw [if_neg h2, if_neg (by omega)]
        rfl
theorem pE_T {f : Nat → Int32} (hf : ∀ i, i < 56 → f i = 0 ∨ f i = 1 ∨ f i = -1) : ∀ (d c : Nat) (s : Int32), d ≤ 8 → c < 7 → sI (fun i => wyI (pE f d i c s).2) (2 ^ d) = if s = 0 then 0 else alN (goW f d c) 7
  | 0, c, s, _, hc => by
    show (0 : Int32) + wyI s = if s = 0 then 0 else alN (fun k => if k = c then 1 else 0) 7
    rw [alN_1, if_pos hc, Int32.zero_add]
    rfl
  | d + 1, c, s, hd, hc => by
    rw [show 2 ^ (d + 1) = 2 * 2 ^ d by rw [Nat.pow_succ, Nat.mul_comm], sI_two]
    simp only [pE_2, pE_3]
    rw [sI_add, pE_T hf d _ _ (by omega) (bnc_lt hc), pE_T hf d _ _ (by omega) (bnc_lt hc)]
    by_cases h1 : s = 0
    · rw [h1, ptI_0, ptI_0]
      rfl
    · have hq := hf ((7 - d) * 7 + c) (by omega)
      have e : goW f (d + 1) c = fun k => (if 0 < f ((7 - d) * 7 + c) then (fun _ => 0) else goW f d (bnc c (-1))) k + (if f ((7 - d) * 7 + c) < 0 then (fun _ => 0) else goW f d (bnc c 1)) k := by
        funext k
        simp only [goW]
        congr 1
        · split <;> rfl
        · split <;> rfl
      rw [if_neg h1, e, alN_ad]
      simp only [ptI_m h1 hq, ptI_p h1 hq]
      congr 1
      · split
        · exact (alN_0 7).symm
        · rfl
      · split
        · exact (alN_0 7).symm
        · rfl
theorem wyN_p {f : Nat → Int32} {c : Nat} {w : Nat → Int32} (hc : c < 7) : ∀ n, (∀ p, p < 7 → wyN f c w n p = w p + sI (fun i => wq (ptL f i c 8) p) n) ∧ wyN f c w n 7 = w 7 + sI (fun i => wyI (ptL f i c 8).2) n
  | 0 => ⟨fun p _ => (Int32.add_zero _).symm, (Int32.add_zero _).symm⟩
  | n + 1 => by
    obtain ⟨i1, i2⟩ := wyN_p (f := f) (w := w) hc n
    have hlt := ptL_lt f n hc 8
    refine ⟨fun p hp => ?_, ?_⟩
    · show wyS (wyN f c w n) (ptL f n c 8) p = w p + (sI (fun i => wq (ptL f i c 8) p) n + wq (ptL f n c 8) p)
      unfold wyS
      rw [va_ne (by omega)]
      unfold wq
      by_cases e : p = (ptL f n c 8).1
      · rw [← e, vat, if_pos rfl, i1 p hp, Int32.add_assoc]
        rfl
      · rw [va_ne e, if_neg e, Int32.add_zero]
        exact i1 p hp
    · show wyS (wyN f c w n) (ptL f n c 8) 7 = w 7 + (sI (fun i => wyI (ptL f i c 8).2) n + wyI (ptL f n c 8).2)
      unfold wyS
      rw [vat, i2, Int32.add_assoc]
theorem z8L_0 {w : Nat → Int32} {p : Nat} (hp : p < 8) : z8L w p = 0 := by
  rcases (show p = 0 ∨ p = 1 ∨ p = 2 ∨ p = 3 ∨ p = 4 ∨ p = 5 ∨ p = 6 ∨ p = 7 by omega) with rfl | rfl | rfl | rfl | rfl | rfl | rfl | rfl <;> rfl
theorem wyL_wv {z : zZ} {pins : Nat → Int32} (vp : VP z pins) (hz : pinZ z) {c : Nat} (hc : c < 7) (w : Nat → Int32) : (∀ p, p < 7 → wyL pins c w p = wv z c p) ∧ wyL pins c w 7 = alN (wv z c) 7 := by
  have hf : ∀ i, i < 56 → pins i = 0 ∨ pins i = 1 ∨ pins i = -1 := fun i hi => by rw [vp i hi]; exact hz i hi
  obtain ⟨i1, i2⟩ := wyN_p (f := pins) (w := z8L w) hc 256
  have eg : ∀ p, p < 7 → goW pins 8 c p = wv z c p := fun p hp => by
    rw [goW_gN hc hp, wv_gN hp, gN_f (f := pins) (f2 := pinF z) (fun i hi => vp i hi) 8 (by omega)]
  have ep : ∀ i, i < 256 → ptL pins i c 8 = pE pins 8 i c 1 := fun i hi => by
    rw [ptL_pE hi 8 (by omega), Nat.sub_self]
    generalize ptL pins i c 8 = q
    rfl
  refine ⟨fun p hp => ?_, ?_⟩
  · unfold wyL
    rw [i1 p hp, z8L_0 (by omega), Int32.zero_add, sI_ext (G := fun i => wq (pE pins 8 i c 1) p) (fun i hi => by rw [ep i hi])]
    have := pE_W hf (k := p) 8 c 1 (by omega) hc
    rw [if_neg (by decide), eg p hp, show (2 : Nat) ^ 8 = 256 from rfl] at this
    exact this
  · unfold wyL
    rw [i2, z8L_0 (by omega), Int32.zero_add, sI_ext (G := fun i => wyI (pE pins 8 i c 1).2) (fun i hi => by rw [ep i hi])]
    have := pE_T hf 8 c 1 (by omega) hc
    rw [if_neg (by decide), alN_ind eg 7 (by omega), show (2 : Nat) ^ 8 = 256 from rfl] at this
    exact this
