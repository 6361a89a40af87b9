/-! Doubles: a positive normal number by its exponent and its fraction; what a program does to it -/
theorem f6q : FP.Core.b64.qmin = -1074 := by decide
theorem f6x : FP.Core.b64.qmax = 971 := by decide
theorem f6t : FP.Core.b64.tails = 4503599627370496 := by decide
theorem f6e : FP.Core.b64.exps = 2048 := by decide
theorem f6p : FP.Core.b64.p = 53 := rfl
theorem fdec_n {E T : Nat} (h1 : 1 ≤ E) (h2 : E ≤ 2046) (hT : T < 4503599627370496) : FP.Core.decode FP.Core.b64 (E * 4503599627370496 + T) = .fin false (4503599627370496 + T) ((E : Int) - 1075) := by
  have a1 : FP.Core.fieldT FP.Core.b64 (E * 4503599627370496 + T) = T := by unfold FP.Core.fieldT; rw [f6t]; omega
  have a2 : FP.Core.fieldE FP.Core.b64 (E * 4503599627370496 + T) = E := by unfold FP.Core.fieldE; rw [f6t, f6e]; omega
  have a3 : FP.Core.fieldS FP.Core.b64 (E * 4503599627370496 + T) = false := by
    unfold FP.Core.fieldS
    rw [f6t, f6e, show (E * 4503599627370496 + T) / 4503599627370496 / 2048 = 0 by omega]
    rfl
  unfold FP.Core.decode
  rw [a1, a2, a3, f6t, f6e, f6q, if_neg (by omega), if_neg (by omega)]
  congr 1
  omega
theorem fdec_0 : FP.Core.decode FP.Core.b64 0 = .fin false 0 (-1074) := by decide
theorem fenc_n {E T : Nat} {q : Int} (h1 : 1 ≤ E) (hq : q = (E : Int) - 1075) : FP.Core.encode FP.Core.b64 (.fin false (4503599627370496 + T) q) = E * 4503599627370496 + T := by
  subst hq
  show (if 4503599627370496 + T < FP.Core.b64.tails then _ else _) = _
  rw [f6t, if_neg (by omega)]
  unfold FP.Core.assemble
  rw [f6t, f6e, f6q, show ((E : Int) - 1075 - -1074).toNat + 1 = E by omega]
  simp only [Bool.toNat_false]
  omega
theorem fenc_0 {q : Int} : FP.Core.encode FP.Core.b64 (.fin false 0 q) = 0 := rfl
theorem fquot {f : FP.Core.Fmt} {s t : Bool} {c d : Nat} {q r : Int} (hd : d ≠ 0) : FP.Core.quotient f (.fin s c q) (.fin t d r) = FP.Core.roundRatio f (s != t) c d (q - r) := if_neg hd
theorem ford {c d : Nat} {q r : Int} : FP.Core.order (.fin false c q) (.fin false d r) = some (compare ((FP.Core.inUnits c q (min q r) : Nat) : Int) ((FP.Core.inUnits d r (min q r) : Nat) : Int)) := rfl
theorem ftoL {c : Nat} {q : Int} : FP.Core.toL (.fin false c q) = Int64.ofInt (max (-2 ^ 63) (min (2 ^ 63 - 1) ((c * 2 ^ q.toNat / 2 ^ (-q).toNat : Nat) : Int))) := rfl
theorem flog {c : Nat} (h1 : 4503599627370496 ≤ c) (h2 : c < 9007199254740992) : c.log2 = 52 := by
  have a1 : 52 ≤ c.log2 := (Nat.le_log2 (by omega)).mpr (by omega)
  have a2 : c.log2 < 53 := (Nat.log2_lt (by omega)).mpr (by omega)
  omega
theorem flead {c d : Nat} (h1 : 4503599627370496 ≤ c) (h2 : c < 9007199254740992) (h3 : 4503599627370496 ≤ d) (h4 : d < 9007199254740992) : FP.Core.leading c d = if d ≤ c then 0 else -1 := by
  unfold FP.Core.leading
  rw [flog h1 h2, flog h3 h4]
  simp
theorem flead1 {c : Nat} (h : c ≠ 0) : FP.Core.leading c 1 = (c.log2 : Int) := by
  have a0 : Nat.log2 1 = 0 := by decide
  unfold FP.Core.leading
  rw [a0]
  have e1 : ((c.log2 : Int) - ((0 : Nat) : Int)).toNat = c.log2 := by omega
  have e2 : (-((c.log2 : Int) - ((0 : Nat) : Int))).toNat = 0 := by omega
  simp only [e1, e2]
  rw [if_pos (by have := Nat.log2_self_le h; omega)]
  omega
theorem fnear {c D : Nat} (hD : 0 < D) : FP.Core.nearest (c * D) D = c := by
  unfold FP.Core.nearest
  rw [Nat.mul_mod_left, Nat.mul_div_cancel _ hD, if_pos (by omega)]
theorem frr {s : Bool} {num den c : Nat} {e q : Int} (h0 : num ≠ 0) (hd : 0 < den) (hq : FP.Core.quantum FP.Core.b64 num den e = q) (h : num * 2 ^ (e - q).toNat = c * (den * 2 ^ (q - e).toNat)) (hc : c < 9007199254740992) (hq2 : q ≤ 971) : FP.Core.roundRatio FP.Core.b64 s num den e = .fin s c q := by
  unfold FP.Core.roundRatio
  rw [if_neg h0, hq]
  unfold FP.Core.roundAt FP.Core.unitsNum FP.Core.unitsDen
  rw [h, fnear (Nat.mul_pos hd (Nat.two_pow_pos _))]
  unfold FP.Core.settle
  rw [f6p, if_pos (show c < 2 ^ 53 by omega)]
  unfold FP.Core.bound
  rw [f6x, if_pos hq2]
/-- a positive normal number -/
def nrm (E T : Nat) : UInt64 := UInt64.ofNat (E * 4503599627370496 + T)
theorem nrm_n {E T : Nat} (h2 : E ≤ 2046) (hT : T < 4503599627370496) : (nrm E T).toNat = E * 4503599627370496 + T := by
  unfold nrm
  rw [UInt64.toNat_ofNat']
  omega
theorem nrm_d {E T : Nat} (h1 : 1 ≤ E) (h2 : E ≤ 2046) (hT : T < 4503599627370496) : FP.Core.decode FP.Core.b64 (nrm E T).toNat = .fin false (4503599627370496 + T) ((E : Int) - 1075) := by
  rw [nrm_n h2 hT, fdec_n h1 h2 hT]
theorem nrm_2 : (4611686018427387904 : UInt64) = nrm 1024 0 := rfl
theorem nrm_1 : FP.dconst1 = nrm 1023 0 := rfl
theorem nrm_52 : (4841369599423283200 : UInt64) = nrm 1075 0 := rfl
theorem fhalf {E T : Nat} (h1 : 2 ≤ E) (h2 : E ≤ 2046) (hT : T < 4503599627370496) : FP.ddiv (nrm E T) 4611686018427387904 = nrm (E - 1) T := by
  rw [nrm_2]
  show UInt64.ofNat (FP.Core.encode FP.Core.b64 (FP.Core.quotient FP.Core.b64 (FP.Core.decode FP.Core.b64 (nrm E T).toNat) (FP.Core.decode FP.Core.b64 (nrm 1024 0).toNat))) = _
  rw [nrm_d (by omega) h2 hT, nrm_d (by omega) (by omega) (by omega)]
  rw [fquot (by omega)]
  have hq : FP.Core.quantum FP.Core.b64 (4503599627370496 + T) (4503599627370496 + 0) ((E : Int) - 1075 - (((1024 : Nat) : Int) - 1075)) = (E : Int) - 1076 := by
    unfold FP.Core.quantum
    rw [flead (by omega) (by omega) (by omega) (by omega), if_pos (by omega), f6q, f6p]
    omega
  rw [frr (c := 4503599627370496 + T) (by omega) (by omega) hq (by
    rw [show ((E : Int) - 1075 - (((1024 : Nat) : Int) - 1075) - ((E : Int) - 1076)).toNat = 52 by omega, show ((E : Int) - 1076 - ((E : Int) - 1075 - (((1024 : Nat) : Int) - 1075))).toNat = 0 by omega]) (by omega) (by omega)]
  show UInt64.ofNat (FP.Core.encode FP.Core.b64 (.fin false (4503599627370496 + T) ((E : Int) - 1076))) = _
  rw [fenc_n (E := E - 1) (by omega) (by omega)]
  rfl
theorem fmul {E T j : Nat} (h1 : 1 ≤ E) (h2 : E + j ≤ 2046) (hj : j ≤ 1000) (hT : T < 4503599627370496) : FP.dmul (nrm E T) (nrm (1023 + j) 0) = nrm (E + j) T := by
  show UInt64.ofNat (FP.Core.encode FP.Core.b64 (FP.Core.round FP.Core.b64 (FP.Core.exactProduct (FP.Core.decode FP.Core.b64 (nrm E T).toNat) (FP.Core.decode FP.Core.b64 (nrm (1023 + j) 0).toNat)))) = _
  rw [nrm_d (by omega) (by omega) hT, nrm_d (by omega) (by omega) (by omega)]
  show UInt64.ofNat (FP.Core.encode FP.Core.b64 (FP.Core.roundRatio FP.Core.b64 false ((4503599627370496 + T) * (4503599627370496 + 0)) 1 ((E : Int) - 1075 + (((1023 + j : Nat) : Int) - 1075)))) = _
  have hl : ((4503599627370496 + T) * (4503599627370496 + 0)).log2 = 104 := by
    have a1 : 104 ≤ ((4503599627370496 + T) * (4503599627370496 + 0)).log2 := (Nat.le_log2 (by omega)).mpr (by omega)
    have a2 : ((4503599627370496 + T) * (4503599627370496 + 0)).log2 < 105 := (Nat.log2_lt (by omega)).mpr (by omega)
    omega
  have hq : FP.Core.quantum FP.Core.b64 ((4503599627370496 + T) * (4503599627370496 + 0)) 1 ((E : Int) - 1075 + (((1023 + j : Nat) : Int) - 1075)) = (E : Int) + j - 1075 := by
    unfold FP.Core.quantum
    rw [flead1 (by omega), hl, f6q, f6p]
    omega
  rw [frr (c := 4503599627370496 + T) (by omega) (by omega) hq (by
    rw [show ((E : Int) - 1075 + (((1023 + j : Nat) : Int) - 1075) - ((E : Int) + j - 1075)).toNat = 0 by omega, show ((E : Int) + j - 1075 - ((E : Int) - 1075 + (((1023 + j : Nat) : Int) - 1075))).toNat = 52 by omega]
    omega) (by omega) (by omega)]
  rw [fenc_n (E := E + j) (by omega) (by omega)]
  rfl
/-- a whole number from 1 on, as a double -/
theorem fint {a : Nat} (h0 : a ≠ 0) (h1 : a < 4503599627370496) (e : Int) (he : -500 ≤ e) (he2 : e ≤ 500) : ∃ T, T < 4503599627370496 ∧ 4503599627370496 + T = a * 2 ^ (52 - a.log2) ∧ a.log2 ≤ 51 ∧ FP.Core.encode FP.Core.b64 (FP.Core.roundRatio FP.Core.b64 false a 1 e) = ((a.log2 : Int) + e + 1023).toNat * 4503599627370496 + T := by
  have b1 := Nat.log2_self_le h0
  have b2 : a < 2 ^ (a.log2 + 1) := (Nat.log2_lt h0).mp (Nat.lt_succ_self _)
  have b3 : a.log2 < 52 := (Nat.log2_lt h0).mpr h1
  have c1 : 2 ^ a.log2 * 2 ^ (52 - a.log2) = 4503599627370496 := by rw [← Nat.pow_add, show a.log2 + (52 - a.log2) = 52 by omega]
  have c2 : 4503599627370496 ≤ a * 2 ^ (52 - a.log2) := by rw [← c1]; exact Nat.mul_le_mul_right _ b1
  have c3 : a * 2 ^ (52 - a.log2) < 9007199254740992 := by
    have := Nat.mul_lt_mul_of_pos_right b2 (Nat.two_pow_pos (52 - a.log2))
    rw [Nat.pow_succ, Nat.mul_assoc, Nat.mul_comm 2, ← Nat.mul_assoc, c1] at this
    exact this
  refine ⟨a * 2 ^ (52 - a.log2) - 4503599627370496, by omega, by omega, by omega, ?_⟩
  have hq : FP.Core.quantum FP.Core.b64 a 1 e = (a.log2 : Int) + e - 52 := by
    unfold FP.Core.quantum
    rw [flead1 h0, f6q, f6p]
    omega
  rw [frr (c := a * 2 ^ (52 - a.log2)) h0 (by omega) hq (by
    rw [show (e - ((a.log2 : Int) + e - 52)).toNat = 52 - a.log2 by omega, show ((a.log2 : Int) + e - 52 - e).toNat = 0 by omega]
    omega) c3 (by omega)]
  have := fenc_n (E := ((a.log2 : Int) + e + 1023).toNat) (T := a * 2 ^ (52 - a.log2) - 4503599627370496) (q := (a.log2 : Int) + e - 52) (by omega) (by omega)
  rw [show 4503599627370496 + (a * 2 ^ (52 - a.log2) - 4503599627370496) = a * 2 ^ (52 - a.log2) by omega] at this
  exact this
theorem fsub1 {T : Nat} (hT : T < 4503599627370496) : FP.dsub (nrm 1023 T) FP.dconst1 = if T = 0 then 0 else UInt64.ofNat (FP.Core.encode FP.Core.b64 (FP.Core.roundRatio FP.Core.b64 false T 1 (-52))) := by
  rw [nrm_1]
  show UInt64.ofNat (FP.Core.encode FP.Core.b64 (FP.Core.round FP.Core.b64 (FP.Core.exactSum (FP.Core.decode FP.Core.b64 (nrm 1023 T).toNat) (FP.Core.negate (FP.Core.decode FP.Core.b64 (nrm 1023 0).toNat))))) = _
  rw [nrm_d (by omega) (by omega) hT, nrm_d (by omega) (by omega) (by omega)]
  have hu : FP.Core.sumUnits false (4503599627370496 + T) (((1023 : Nat) : Int) - 1075) true (4503599627370496 + 0) (((1023 : Nat) : Int) - 1075) (min (((1023 : Nat) : Int) - 1075) (((1023 : Nat) : Int) - 1075)) = (T : Int) := by
    unfold FP.Core.sumUnits FP.Core.signed FP.Core.inUnits
    rw [show ((((1023 : Nat) : Int) - 1075) - min (((1023 : Nat) : Int) - 1075) (((1023 : Nat) : Int) - 1075)).toNat = 0 by omega]
    rw [if_neg (by decide), if_pos rfl]
    omega
  show UInt64.ofNat (FP.Core.encode FP.Core.b64 (FP.Core.round FP.Core.b64 (.fin (FP.Core.sumSign false true (FP.Core.sumUnits false (4503599627370496 + T) (((1023 : Nat) : Int) - 1075) true (4503599627370496 + 0) (((1023 : Nat) : Int) - 1075) (min (((1023 : Nat) : Int) - 1075) (((1023 : Nat) : Int) - 1075)))) (FP.Core.sumUnits false (4503599627370496 + T) (((1023 : Nat) : Int) - 1075) true (4503599627370496 + 0) (((1023 : Nat) : Int) - 1075) (min (((1023 : Nat) : Int) - 1075) (((1023 : Nat) : Int) - 1075))).natAbs (min (((1023 : Nat) : Int) - 1075) (((1023 : Nat) : Int) - 1075))))) = _
  rw [hu]
  have hs : FP.Core.sumSign false true (T : Int) = false := by
    unfold FP.Core.sumSign
    split
    · rfl
    · exact decide_eq_false (by omega)
  rw [hs, Int.natAbs_natCast, show min (((1023 : Nat) : Int) - 1075) (((1023 : Nat) : Int) - 1075) = -52 by omega]
  show UInt64.ofNat (FP.Core.encode FP.Core.b64 (FP.Core.roundRatio FP.Core.b64 false T 1 (-52))) = _
  split
  · rename_i h
    rw [h]
    show UInt64.ofNat (FP.Core.encode FP.Core.b64 (.fin false 0 FP.Core.b64.qmin)) = 0
    rw [fenc_0]
    rfl
  · rfl
theorem n64_lt {v : UInt64} (h : v.toNat ≤ 9218868437227405312) : vf_n64 v := by
  show v &&& 0x7fffffffffffffff ≤ 0x7ff0000000000000
  rw [UInt64.le_iff_toNat_le, UInt64.toNat_and, show (0x7fffffffffffffff : UInt64).toNat = 2 ^ 63 - 1 from rfl, Nat.and_two_pow_sub_one_eq_mod]
  show v.toNat % 2 ^ 63 ≤ 9218868437227405312
  omega
theorem n64_nrm {E T : Nat} (h2 : E ≤ 2046) (hT : T < 4503599627370496) : vf_n64 (nrm E T) := n64_lt (by rw [nrm_n h2 hT]; omega)
theorem fmul0 : FP.dmul 0 4841369599423283200 = 0 := by
  rw [nrm_52]
  show UInt64.ofNat (FP.Core.encode FP.Core.b64 (FP.Core.round FP.Core.b64 (FP.Core.exactProduct (FP.Core.decode FP.Core.b64 0) (FP.Core.decode FP.Core.b64 (nrm 1075 0).toNat)))) = _
  rw [nrm_d (by omega) (by omega) (by omega), fdec_0]
  show UInt64.ofNat (FP.Core.encode FP.Core.b64 (FP.Core.roundRatio FP.Core.b64 false (0 * (4503599627370496 + 0)) 1 (-1074 + (((1075 : Nat) : Int) - 1075)))) = _
  rw [Nat.zero_mul]
  show UInt64.ofNat (FP.Core.encode FP.Core.b64 (.fin false 0 FP.Core.b64.qmin)) = 0
  rw [fenc_0]
  rfl
theorem fd2l {c T L : Nat} {q : Int} (hL : L ≤ 52) (hc : c = T * 2 ^ (52 - L)) (hq : q = (L : Int) - 52) (hT : T < 4503599627370496) : FP.Core.toL (.fin false c q) = Int64.ofNat T := by
  subst hc hq
  rw [ftoL, show ((L : Int) - 52).toNat = 0 by omega, show (-((L : Int) - 52)).toNat = 52 - L by omega, Nat.pow_zero, Nat.mul_one, Nat.mul_div_cancel _ (Nat.two_pow_pos _)]
  rw [show max (-2 ^ 63) (min (2 ^ 63 - 1) ((T : Nat) : Int)) = (T : Int) by omega]
  exact Int64.ofInt_eq_ofNat
theorem ffrac {T : Nat} (hT : T < 4503599627370496) : vf_n64 (FP.dsub (nrm 1023 T) FP.dconst1) ∧ vf_n64 (FP.dmul (FP.dsub (nrm 1023 T) FP.dconst1) 4841369599423283200) ∧ FP.d2l (FP.dmul (FP.dsub (nrm 1023 T) FP.dconst1) 4841369599423283200) = Int64.ofNat T := by
  rw [fsub1 hT]
  by_cases h0 : T = 0
  · rw [if_pos h0, fmul0, h0]
    refine ⟨n64_lt (Nat.zero_le _), n64_lt (Nat.zero_le _), ?_⟩
    show FP.Core.toL (FP.Core.decode FP.Core.b64 0) = _
    rw [fdec_0]
    rw [ftoL, Nat.zero_mul, Nat.zero_div]
    decide
  · rw [if_neg h0]
    obtain ⟨T2, h2, h3, h4, h5⟩ := fint h0 hT (-52) (by omega) (by omega)
    rw [h5, show ((T.log2 : Int) + -52 + 1023).toNat = T.log2 + 971 by omega]
    show vf_n64 (nrm (T.log2 + 971) T2) ∧ vf_n64 (FP.dmul (nrm (T.log2 + 971) T2) 4841369599423283200) ∧ FP.d2l (FP.dmul (nrm (T.log2 + 971) T2) 4841369599423283200) = _
    rw [nrm_52, show (1075 : Nat) = 1023 + 52 from rfl, fmul (by omega) (by omega) (by omega) h2]
    refine ⟨n64_nrm (by omega) h2, n64_nrm (by omega) h2, ?_⟩
    show FP.Core.toL (FP.Core.decode FP.Core.b64 (nrm (T.log2 + 971 + 52) T2).toNat) = _
    rw [nrm_d (by omega) (by omega) h2]
    exact fd2l (L := T.log2) (by omega) h3 (by omega) hT
theorem fcmp_lt {E F T : Nat} (h1 : 1 ≤ E) (h : E < F) (h2 : F ≤ 2046) (hT : T < 4503599627370496) : FP.dcmp (nrm E T) (nrm F 0) = some .lt := by
  show FP.Core.order (FP.Core.decode FP.Core.b64 (nrm E T).toNat) (FP.Core.decode FP.Core.b64 (nrm F 0).toNat) = _
  rw [nrm_d h1 (by omega) hT, nrm_d (by omega) h2 (by omega)]
  rw [ford]
  unfold FP.Core.inUnits
  rw [show min ((E : Int) - 1075) ((F : Int) - 1075) = (E : Int) - 1075 by omega, show ((E : Int) - 1075 - ((E : Int) - 1075)).toNat = 0 by omega, show ((F : Int) - 1075 - ((E : Int) - 1075)).toNat = (F - E - 1) + 1 by omega, Nat.pow_succ]
  have h9 := Nat.two_pow_pos (F - E - 1)
  show some (compareOfLessAndEq _ _) = _
  unfold compareOfLessAndEq
  rw [if_pos]
  have : (4503599627370496 + T) * 2 ^ 0 < (4503599627370496 + 0) * (2 ^ (F - E - 1) * 2) := by
    have := Nat.mul_le_mul_left (4503599627370496 * 2) h9
    omega
  omega
theorem fcmp_ge {E F T : Nat} (h1 : 1 ≤ F) (h : F ≤ E) (h2 : E ≤ 2046) (hT : T < 4503599627370496) : FP.dcmp (nrm E T) (nrm F 0) = some .eq ∨ FP.dcmp (nrm E T) (nrm F 0) = some .gt := by
  show FP.Core.order (FP.Core.decode FP.Core.b64 (nrm E T).toNat) (FP.Core.decode FP.Core.b64 (nrm F 0).toNat) = _ ∨ FP.Core.order (FP.Core.decode FP.Core.b64 (nrm E T).toNat) (FP.Core.decode FP.Core.b64 (nrm F 0).toNat) = _
  rw [nrm_d (by omega) h2 hT, nrm_d h1 (by omega) (by omega)]
  rw [ford]
  unfold FP.Core.inUnits
  rw [show min ((E : Int) - 1075) ((F : Int) - 1075) = (F : Int) - 1075 by omega, show ((F : Int) - 1075 - ((F : Int) - 1075)).toNat = 0 by omega, show ((E : Int) - 1075 - ((F : Int) - 1075)).toNat = E - F by omega]
  have h9 := Nat.two_pow_pos (E - F)
  have h8 : ¬ (((4503599627370496 + T) * 2 ^ (E - F) : Nat) : Int) < (((4503599627370496 + 0) * 2 ^ 0 : Nat) : Int) := by
    have := Nat.mul_le_mul_left (4503599627370496 + T) h9
    omega
  show some (compareOfLessAndEq _ _) = _ ∨ some (compareOfLessAndEq _ _) = _
  unfold compareOfLessAndEq
  rw [if_neg h8]
  split
  · exact Or.inl rfl
  · exact Or.inr rfl
theorem fcmp_pos {E T : Nat} (h1 : 1 ≤ E) (h2 : E ≤ 2046) (hT : T < 4503599627370496) : FP.dcmp (nrm E T) FP.dconst0 = some .gt := by
  show FP.Core.order (FP.Core.decode FP.Core.b64 (nrm E T).toNat) (FP.Core.decode FP.Core.b64 0) = _
  rw [nrm_d h1 h2 hT, fdec_0]
  rw [ford]
  unfold FP.Core.inUnits
  rw [Nat.zero_mul]
  have h9 := Nat.two_pow_pos ((E : Int) - 1075 - min ((E : Int) - 1075) (-1074)).toNat
  have h8 : 0 < (4503599627370496 + T) * 2 ^ ((E : Int) - 1075 - min ((E : Int) - 1075) (-1074)).toNat := Nat.mul_pos (by omega) h9
  show some (compareOfLessAndEq _ _) = _
  unfold compareOfLessAndEq
  rw [if_neg (by omega), if_neg (by omega)]
theorem fcmp_refl {E T : Nat} (h1 : 1 ≤ E) (h2 : E ≤ 2046) (hT : T < 4503599627370496) : FP.dcmp (nrm E T) (nrm E T) = some .eq := by
  show FP.Core.order (FP.Core.decode FP.Core.b64 (nrm E T).toNat) (FP.Core.decode FP.Core.b64 (nrm E T).toNat) = _
  rw [nrm_d h1 h2 hT]
  rw [ford]
  show some (compareOfLessAndEq _ _) = _
  unfold compareOfLessAndEq
  rw [if_neg (by omega), if_pos rfl]
/-- a positive int, as a double -/
theorem fi2d {a : Nat} (h0 : a ≠ 0) (h1 : a < 2147483648) : ∃ T, T < 4503599627370496 ∧ a.log2 ≤ 30 ∧ FP.i2d (nI a) = nrm (a.log2 + 1023) T := by
  obtain ⟨T, h2, -, -, h5⟩ := fint h0 (by omega) 0 (by omega) (by omega)
  have h6 : a.log2 < 31 := (Nat.log2_lt h0).mpr (by omega)
  refine ⟨T, h2, by omega, ?_⟩
  show UInt64.ofNat (FP.Core.encode FP.Core.b64 (FP.Core.round FP.Core.b64 (FP.Core.ofInt (nI a).toInt))) = _
  rw [nI_toInt h1]
  show UInt64.ofNat (FP.Core.encode FP.Core.b64 (FP.Core.roundRatio FP.Core.b64 (decide ((a : Int) < 0)) (a : Int).natAbs 1 0)) = _
  rw [decide_eq_false (by omega), Int.natAbs_natCast, h5, show ((a.log2 : Int) + 0 + 1023).toNat = a.log2 + 1023 by omega]
  rfl
theorem fnear_b {N D lo hi : Nat} (hD : 0 < D) (h1 : lo * D ≤ N) (h2 : N < hi * D) : lo ≤ FP.Core.nearest N D ∧ FP.Core.nearest N D ≤ hi := by
  have a1 : lo ≤ N / D := (Nat.le_div_iff_mul_le hD).mpr h1
  have a2 : N / D < hi := (Nat.div_lt_iff_lt_mul hD).mpr h2
  unfold FP.Core.nearest
  split
  · omega
  · split
    · omega
    · omega
theorem fsettle {c : Nat} {q : Int} (h1 : 4503599627370496 ≤ c) (h2 : c ≤ 9007199254740992) (h3 : -200 ≤ q) (h4 : q ≤ 200) : ∃ (E T : Nat), (E : Int) ≤ q + 1076 ∧ q + 1075 ≤ (E : Int) ∧ T < 4503599627370496 ∧ UInt64.ofNat (FP.Core.encode FP.Core.b64 (FP.Core.settle FP.Core.b64 false c q)) = nrm E T := by
  unfold FP.Core.settle FP.Core.bound
  rw [f6p, f6x, f6t]
  split
  · rename_i h5
    rw [if_pos (by omega)]
    refine ⟨(q + 1075).toNat, c - 4503599627370496, by omega, by omega, by omega, ?_⟩
    have := fenc_n (E := (q + 1075).toNat) (T := c - 4503599627370496) (q := q) (by omega) (by omega)
    rw [show 4503599627370496 + (c - 4503599627370496) = c by omega] at this
    rw [this]
    rfl
  · rw [if_pos (by omega)]
    refine ⟨(q + 1076).toNat, 0, by omega, by omega, by omega, ?_⟩
    have := fenc_n (E := (q + 1076).toNat) (T := 0) (q := q + 1) (by omega) (by omega)
    rw [Nat.add_zero] at this
    rw [this]
    rfl
theorem fdiv {a b : Nat} (ha : a ≠ 0) (ha2 : a < 2147483648) (hb : b ≠ 0) (hb2 : b < 2147483648) : ∃ E T, 990 ≤ E ∧ E ≤ 1056 ∧ T < 4503599627370496 ∧ FP.ddiv (FP.i2d (nI a)) (FP.i2d (nI b)) = nrm E T := by
  obtain ⟨S, s1, s2, s3⟩ := fi2d ha ha2
  obtain ⟨T, t1, t2, t3⟩ := fi2d hb hb2
  rw [s3, t3]
  show ∃ E T2, 990 ≤ E ∧ E ≤ 1056 ∧ T2 < 4503599627370496 ∧ UInt64.ofNat (FP.Core.encode FP.Core.b64 (FP.Core.quotient FP.Core.b64 (FP.Core.decode FP.Core.b64 (nrm (a.log2 + 1023) S).toNat) (FP.Core.decode FP.Core.b64 (nrm (b.log2 + 1023) T).toNat))) = nrm E T2
  rw [nrm_d (by omega) (by omega) s1, nrm_d (by omega) (by omega) t1]
  rw [fquot (by omega)]
  show ∃ E T2, 990 ≤ E ∧ E ≤ 1056 ∧ T2 < 4503599627370496 ∧ UInt64.ofNat (FP.Core.encode FP.Core.b64 (FP.Core.roundRatio FP.Core.b64 false (4503599627370496 + S) (4503599627370496 + T) (((a.log2 + 1023 : Nat) : Int) - 1075 - (((b.log2 + 1023 : Nat) : Int) - 1075)))) = nrm E T2
  generalize he : (((a.log2 + 1023 : Nat) : Int) - 1075 - (((b.log2 + 1023 : Nat) : Int) - 1075)) = e
  have e1 : -30 ≤ e := by omega
  have e2 : e ≤ 30 := by omega
  unfold FP.Core.roundRatio
  rw [if_neg (by omega)]
  have hl := flead (c := 4503599627370496 + S) (d := 4503599627370496 + T) (by omega) (by omega) (by omega) (by omega)
  have key : ∃ q, FP.Core.quantum FP.Core.b64 (4503599627370496 + S) (4503599627370496 + T) e = q ∧ -90 ≤ q ∧ e - 53 ≤ q ∧ q ≤ e - 52 ∧ 4503599627370496 ≤ FP.Core.nearest (FP.Core.unitsNum (4503599627370496 + S) e q) (FP.Core.unitsDen (4503599627370496 + T) e q) ∧ FP.Core.nearest (FP.Core.unitsNum (4503599627370496 + S) e q) (FP.Core.unitsDen (4503599627370496 + T) e q) ≤ 9007199254740992 := by
    unfold FP.Core.unitsNum FP.Core.unitsDen FP.Core.quantum
    rw [hl, f6q, f6p]
    by_cases hc : 4503599627370496 + T ≤ 4503599627370496 + S
    · rw [if_pos hc]
      refine ⟨e - 52, by omega, by omega, by omega, by omega, ?_⟩
      rw [show (e - (e - 52)).toNat = 52 by omega, show (e - 52 - e).toNat = 0 by omega]
      exact fnear_b (by omega) (by omega) (by omega)
    · rw [if_neg hc]
      refine ⟨e - 53, by omega, by omega, by omega, by omega, ?_⟩
      rw [show (e - (e - 53)).toNat = 53 by omega, show (e - 53 - e).toNat = 0 by omega]
      exact fnear_b (by omega) (by omega) (by omega)
  obtain ⟨q, q1, q2, q3, q4, q5, q6⟩ := key
  rw [q1]
  unfold FP.Core.roundAt
  obtain ⟨E, T2, r1, r2, r3, r4⟩ := fsettle q5 q6 (q := q) (by omega) (by omega)
  exact ⟨E, T2, by omega, by omega, r3, r4⟩
theorem fdiv0 {b : Nat} (hb : b ≠ 0) (hb2 : b < 2147483648) : FP.ddiv (FP.i2d (nI 0)) (FP.i2d (nI b)) = 0 := by
  obtain ⟨T, t1, t2, t3⟩ := fi2d hb hb2
  rw [t3]
  have h0 : FP.i2d (nI 0) = 0 := by
    show UInt64.ofNat (FP.Core.encode FP.Core.b64 (FP.Core.round FP.Core.b64 (FP.Core.ofInt (nI 0).toInt))) = _
    show UInt64.ofNat (FP.Core.encode FP.Core.b64 (.fin false 0 FP.Core.b64.qmin)) = _
    rw [fenc_0]
    rfl
  rw [h0]
  show UInt64.ofNat (FP.Core.encode FP.Core.b64 (FP.Core.quotient FP.Core.b64 (FP.Core.decode FP.Core.b64 0) (FP.Core.decode FP.Core.b64 (nrm (b.log2 + 1023) T).toNat))) = _
  rw [nrm_d (by omega) (by omega) t1, fdec_0]
  rw [fquot (by omega)]
  show UInt64.ofNat (FP.Core.encode FP.Core.b64 (.fin false 0 FP.Core.b64.qmin)) = _
  rw [fenc_0]
  rfl
theorem fcl {E F T : Nat} {v : UInt64} (hv : v = nrm F 0) (h1 : 1 ≤ E) (h2 : E ≤ 2046) (h3 : 1 ≤ F) (h4 : F ≤ 2046) (hT : T < 4503599627370496) : (Op.cmpValue (FP.dcmp (nrm E T) v) .l < 0 ↔ E < F) ∧ (0 ≤ Op.cmpValue (FP.dcmp (nrm E T) v) .g ↔ F ≤ E) := by
  subst hv
  by_cases h : E < F
  · rw [fcmp_lt h1 h h4 hT]
    exact ⟨⟨fun _ => h, fun _ => by decide⟩, ⟨fun q => absurd q (by decide), fun q => absurd h (by omega)⟩⟩
  · rcases fcmp_ge (E := E) h3 (by omega) h2 hT with e | e <;> rw [e]
    · exact ⟨⟨fun q => absurd q (by decide), fun q => absurd q h⟩, ⟨fun _ => by omega, fun _ => by decide⟩⟩
    · exact ⟨⟨fun q => absurd q (by decide), fun q => absurd q h⟩, ⟨fun _ => by omega, fun _ => by decide⟩⟩
theorem fdbl {E T : Nat} (h1 : 1 ≤ E) (h2 : E + 1 ≤ 2046) (hT : T < 4503599627370496) : FP.dmul (nrm E T) 4611686018427387904 = nrm (E + 1) T := fmul (j := 1) h1 h2 (by omega) hT
theorem fbits {E T : Nat} : Int64.ofNat E * 4503599627370496 + Int64.ofNat T = UInt64.toInt64 (nrm E T) := by
  show _ = Int64.ofNat (E * 4503599627370496 + T)
  rw [Int64.ofNat_add, Int64.ofNat_mul]
  rfl
theorem fx_1 {x : Int64} {j : Nat} (hx : x = Int64.ofNat (1023 + j)) : x + 1 = Int64.ofNat (1023 + (j + 1)) := by
  rw [hx, ← Nat.add_assoc, Int64.ofNat_add (1023 + j) 1]
  rfl
theorem fx_2 {y : Int64} {E d : Nat} (hy : y = Int64.ofNat (1023 + E - d)) (h : d < 1023 + E) : y - 1 = Int64.ofNat (1023 + E - (d + 1)) := by
  rw [hy, show 1023 + E - d = (1023 + E - (d + 1)) + 1 by omega, Int64.ofNat_add]
  exact Int64.add_sub_cancel _ _
theorem fcmp_00 : FP.dcmp 0 FP.dconst0 = some .eq := by decide

