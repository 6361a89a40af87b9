/-! A contract's end of which the heap is said by a property -/
theorem sa_56 {μ : zB} {x y x2 y2 : Nat → Int32} : sa (sa (sa (sa μ 5 x) 6 y) 5 x2) 6 y2 = sa (sa μ 5 x2) 6 y2 := by rw [sa_sw (by decide), sa_sa]
def zRE (r : Option Value) (S : zH → Prop) (n2 : Nat) : zO → zH → Nat → Prop := fun o a b => o = .inl r ∧ S a ∧ b = n2
theorem zREi {v r : Int32} {h : zH} {S : zH → Prop} {n n2 : Nat} (e1 : v = r) (e2 : S h) (e3 : n = n2) : zRE (some (.int r)) S n2 (.inl (some (.int v))) h n := ⟨by rw [e1], e2, e3⟩
theorem zREl {v r : Int64} {h : zH} {S : zH → Prop} {n n2 : Nat} (e1 : v = r) (e2 : S h) (e3 : n = n2) : zRE (some (.long r)) S n2 (.inl (some (.long v))) h n := ⟨by rw [e1], e2, e3⟩
theorem zREd {v r : UInt64} {h : zH} {S : zH → Prop} {n n2 : Nat} (e1 : v = r) (e2 : S h) (e3 : n = n2) : zRE (some (.double r)) S n2 (.inl (some (.double v))) h n := ⟨by rw [e1], e2, e3⟩
theorem zREv {h : zH} {S : zH → Prop} {n n2 : Nat} (e2 : S h) (e3 : n = n2) : zRE none S n2 (.inl none) h n := ⟨rfl, e2, e3⟩
theorem zRE_x {r : Option Value} {S : zH → Prop} {n2 : Nat} {E : String} {a : zH} {b : Nat} {Q : Prop} (h : zRE r S n2 (.inr E) a b) : Q := by cases h.1
theorem zRE_v {r v : Option Value} {S : zH → Prop} {a : zH} {n2 b : Nat} (h : zRE r S n2 (.inl v) a b) : v = r ∧ S a ∧ b = n2 := ⟨Sum.inl.inj h.1, h.2.1, h.2.2⟩
theorem zLaws.callV2 {l : Launch} {D : va_G} {base : Nat} {cc : ByteArray} {own : String} {y : MethodName} {R : Room} {nL : Nat} {Sx : Nat → (Nat → Int32) → Prop} {V : zVT} {X : zXT} (L : zLaws l D base cc own y R nL Sx V X) {pc : Nat} {ls : List (Nat × Value)} {st : List Value} {h : zH} {n k g : Nat} {x na dd2 mc ms maxL : Nat} {y2 : MethodName} {bytes : ByteArray} {ret : Option FieldType} {rest : List Value} {b ci : Nat} {fs : List Value} {As : List Value} {r : Option Value} {S : zH → Prop} {n2 k2 g2 : Nat} {st2 : List Value} (d : decode cc pc = .ok (.invokevirtual x, 3)) (hM : zCt l D base dd2 y2 (.code y2 bytes maxL ret) (.ref b :: As) h n mc ms (zRE r S n2)) (hm : zMY y2 bytes maxL ret na) (hv : zLV own x y2) (hb9 : h b = some (.inr (ci, fs))) (hcl : (vwCl[ci]?).map (fun q => q.1) = some y2.cls) (hA : As.length = na) (hst : st = As.reverse ++ .ref b :: rest) (q1 : dd2 + 1 ≤ R.frames) (q2 : 64 * (dd2 + 1) ≤ R.locals) (q3 : zcat rest ≤ 8) (q4 : k + mc ≤ R.cells) (q5 : g + ms ≤ R.slots) (e1 : r.toList ++ rest = st2) (e2 : k + mc = k2) (e3 : g + ms = g2) (kk : ∀ h2, S h2 → V (pc + 3) ls st2 h2 n2 k2 g2) : V pc ls st h n k g := by
  refine L.callV d hM hm hv hb9 hcl hA hst q1 q2 q3 q4 q5 (fun v a b hn hp => ?_) (fun E a b hn hp => zRE_x hp)
  obtain ⟨q1, q2, q3⟩ := zRE_v hp
  rw [q1, q3, e1, e2, e3]
  exact kk _ q2
theorem zLaws.callS2 {l : Launch} {D : va_G} {base : Nat} {cc : ByteArray} {own : String} {y : MethodName} {R : Room} {nL : Nat} {Sx : Nat → (Nat → Int32) → Prop} {V : zVT} {X : zXT} (L : zLaws l D base cc own y R nL Sx V X) {pc : Nat} {ls : List (Nat × Value)} {st : List Value} {h : zH} {n k g : Nat} {x na dd2 mc ms maxL : Nat} {y2 : MethodName} {bytes : ByteArray} {ret : Option FieldType} {rest : List Value} {As : List Value} {r : Option Value} {S : zH → Prop} {n2 k2 g2 : Nat} {st2 : List Value} (d : decode cc pc = .ok (.invokestatic x, 3)) (hM : zCt l D base dd2 y2 (.code y2 bytes maxL ret) As h n mc ms (zRE r S n2)) (hm : zMY y2 bytes maxL ret na) (hv : zLS own x y2) (hA : As.length = na) (hst : st = As.reverse ++ rest) (q1 : dd2 + 1 ≤ R.frames) (q2 : 64 * (dd2 + 1) ≤ R.locals) (q3 : zcat rest ≤ 8) (q4 : k + mc ≤ R.cells) (q5 : g + ms ≤ R.slots) (e1 : r.toList ++ rest = st2) (e2 : k + mc = k2) (e3 : g + ms = g2) (kk : ∀ h2, S h2 → V (pc + 3) ls st2 h2 n2 k2 g2) : V pc ls st h n k g := by
  refine L.callS d hM hm hv hA hst q1 q2 q3 q4 q5 (fun v a b hn hp => ?_) (fun E a b hn hp => zRE_x hp)
  obtain ⟨q1, q2, q3⟩ := zRE_v hp
  rw [q1, q3, e1, e2, e3]
  exact kk _ q2
theorem zLaws.callSH2 {l : Launch} {D : va_G} {base : Nat} {cc : ByteArray} {own : String} {y : MethodName} {R : Room} {nL : Nat} {Sx : Nat → (Nat → Int32) → Prop} {V : zVT} {X : zXT} (L : zLaws l D base cc own y R nL Sx V X) {pc : Nat} {ls : List (Nat × Value)} {st : List Value} {h : zH} {n k g : Nat} {x na dd2 mc ms maxL : Nat} {y2 : MethodName} {bytes : ByteArray} {ret : Option FieldType} {rest : List Value} {hh : List (Nat × Nat × Nat × Nat)} {As : List Value} {r : Option Value} {S : zH → Prop} {n2 k2 g2 : Nat} {st2 : List Value} (d : decode cc pc = .ok (.invokestatic x, 3)) (hM : zCt l D base dd2 y2 (.codeWith y2 bytes maxL ret hh) As h n mc ms (zRE r S n2)) (hm : zMH y2 bytes maxL ret hh na) (hv : zLS own x y2) (hA : As.length = na) (hst : st = As.reverse ++ rest) (q1 : dd2 + 1 ≤ R.frames) (q2 : 64 * (dd2 + 1) ≤ R.locals) (q3 : zcat rest ≤ 8) (q4 : k + mc ≤ R.cells) (q5 : g + ms ≤ R.slots) (e1 : r.toList ++ rest = st2) (e2 : k + mc = k2) (e3 : g + ms = g2) (kk : ∀ h2, S h2 → V (pc + 3) ls st2 h2 n2 k2 g2) : V pc ls st h n k g := by
  refine L.callSH d hM hm hv hA hst q1 q2 q3 q4 q5 (fun v a b hn hp => ?_) (fun E a b hn hp => zRE_x hp)
  obtain ⟨q1, q2, q3⟩ := zRE_v hp
  rw [q1, q3, e1, e2, e3]
  exact kk _ q2
theorem zLaws.callSN2 {l : Launch} {D : va_G} {base : Nat} {cc : ByteArray} {own : String} {y : MethodName} {R : Room} {nL : Nat} {Sx : Nat → (Nat → Int32) → Prop} {V : zVT} {X : zXT} (L : zLaws l D base cc own y R nL Sx V X) {pc : Nat} {ls : List (Nat × Value)} {st : List Value} {h : zH} {n k g : Nat} {x na dd2 mc ms maxL : Nat} {y2 : MethodName} {bytes : ByteArray} {ret : Option FieldType} {rest : List Value} {host : String} {As : List Value} {r : Option Value} {S : zH → Prop} {n2 k2 g2 : Nat} {st2 : List Value} (d : decode cc pc = .ok (.invokestatic x, 3)) (hM : zCt l D base dd2 y2 (.code y2 bytes maxL ret) As h n mc ms (zRE r S n2)) (hm : zMY y2 bytes maxL ret na) (hv : zLSN own x y2 host) (hA : As.length = na) (hst : st = As.reverse ++ rest) (q1 : dd2 + 1 ≤ R.frames) (q2 : 64 * (dd2 + 1) ≤ R.locals) (q3 : zcat rest ≤ 8) (q4 : k + mc ≤ R.cells) (q5 : g + ms ≤ R.slots) (e1 : r.toList ++ rest = st2) (e2 : k + mc = k2) (e3 : g + ms = g2) (kk : ∀ h2, S h2 → V (pc + 3) ls st2 h2 n2 k2 g2) : V pc ls st h n k g := by
  refine L.callSN d hM hm hv hA hst q1 q2 q3 q4 q5 (fun v a b hn hp => ?_) (fun E a b hn hp => zRE_x hp)
  obtain ⟨q1, q2, q3⟩ := zRE_v hp
  rw [q1, q3, e1, e2, e3]
  exact kk _ q2
theorem zLaws.callI2 {l : Launch} {D : va_G} {base : Nat} {cc : ByteArray} {own : String} {y : MethodName} {R : Room} {nL : Nat} {Sx : Nat → (Nat → Int32) → Prop} {V : zVT} {X : zXT} (L : zLaws l D base cc own y R nL Sx V X) {pc : Nat} {ls : List (Nat × Value)} {st : List Value} {h : zH} {n k g : Nat} {x na dd2 mc ms maxL : Nat} {y2 : MethodName} {bytes : ByteArray} {rest : List Value} {b : Nat} {As : List Value} {r : Option Value} {S : zH → Prop} {n2 k2 g2 : Nat} {st2 : List Value} (d : decode cc pc = .ok (.invokespecial x, 3)) (hM : zCt l D base dd2 y2 (.code y2 bytes maxL none) (.ref b :: As) h n mc ms (zRE r S n2)) (hm : zMY y2 bytes maxL none na) (hv : zLI own x y2) (hA : As.length = na) (hst : st = As.reverse ++ .ref b :: rest) (q1 : dd2 + 1 ≤ R.frames) (q2 : 64 * (dd2 + 1) ≤ R.locals) (q3 : zcat rest ≤ 8) (q4 : k + mc ≤ R.cells) (q5 : g + ms ≤ R.slots) (e1 : r.toList ++ rest = st2) (e2 : k + mc = k2) (e3 : g + ms = g2) (kk : ∀ h2, S h2 → V (pc + 3) ls st2 h2 n2 k2 g2) : V pc ls st h n k g := by
  refine L.callI d hM hm hv hA hst q1 q2 q3 q4 q5 (fun v a b hn hp => ?_) (fun E a b hn hp => zRE_x hp)
  obtain ⟨q1, q2, q3⟩ := zRE_v hp
  rw [q1, q3, e1, e2, e3]
  exact kk _ q2
theorem zLaws.callIN2 {l : Launch} {D : va_G} {base : Nat} {cc : ByteArray} {own : String} {y : MethodName} {R : Room} {nL : Nat} {Sx : Nat → (Nat → Int32) → Prop} {V : zVT} {X : zXT} (L : zLaws l D base cc own y R nL Sx V X) {pc : Nat} {ls : List (Nat × Value)} {st : List Value} {h : zH} {n k g : Nat} {x na dd2 mc ms maxL : Nat} {y2 : MethodName} {bytes : ByteArray} {rest : List Value} {host : String} {b : Nat} {As : List Value} {r : Option Value} {S : zH → Prop} {n2 k2 g2 : Nat} {st2 : List Value} (d : decode cc pc = .ok (.invokespecial x, 3)) (hM : zCt l D base dd2 y2 (.code y2 bytes maxL none) (.ref b :: As) h n mc ms (zRE r S n2)) (hm : zMY y2 bytes maxL none na) (hv : zLIN own x y2 host) (hA : As.length = na) (hst : st = As.reverse ++ .ref b :: rest) (q1 : dd2 + 1 ≤ R.frames) (q2 : 64 * (dd2 + 1) ≤ R.locals) (q3 : zcat rest ≤ 8) (q4 : k + mc ≤ R.cells) (q5 : g + ms ≤ R.slots) (e1 : r.toList ++ rest = st2) (e2 : k + mc = k2) (e3 : g + ms = g2) (kk : ∀ h2, S h2 → V (pc + 3) ls st2 h2 n2 k2 g2) : V pc ls st h n k g := by
  refine L.callIN d hM hm hv hA hst q1 q2 q3 q4 q5 (fun v a b hn hp => ?_) (fun E a b hn hp => zRE_x hp)
  obtain ⟨q1, q2, q3⟩ := zRE_v hp
  rw [q1, q3, e1, e2, e3]
  exact kk _ q2
/-! The text, read by the reference: where a part ends, or where it is wrong -/
def aT (f : Nat → Int32) (L p : Nat) : Int32 := if L ≤ p then 0 else f p
def rnC (f : Nat → Int32) (L : Nat) (s : Int32) (p : Nat) : Int32 := inV (aT f L p) (if s = 0 then 49 else 48) 57
def rnN (f : Nat → Int32) (L : Nat) (most : Int32) : Nat → Int32 × Nat → Int32 × Nat
  | 0, q => q
  | k + 1, q => if rnC f L q.1 q.2 = 0 then q else if most < 10 * q.1 + aT f L q.2 - 48 then q else rnN f L most k (10 * q.1 + aT f L q.2 - 48, q.2 + 1)
def rnQ (f : Nat → Int32) (L : Nat) (most : Int32) (a : Nat) : Int32 × Nat := rnN f L most (L - a) (0, a)
/-- an end, or the place of an error -/
def rpE (q : Bool × Nat) : Int32 := if q.1 = true then nI q.2 else -1 - nI q.2
def rnE (q : Int32 × Nat) : Bool × Nat := if q.1 = 0 then (false, q.2) else (true, q.2)
def rpS (f : Nat → Int32) (L a : Nat) : Bool × Nat := if aT f L a = 36 then rnE (rnQ f L 99 (a + 1)) else if aT f L a = 108 then (if inV (aT f L (a + 1) - 48) 0 6 = 0 then (false, a + 1) else if aT f L (a + 2) = 120 then rnE (rnQ f L 30 (a + 3)) else (false, a + 2))
  else if aT f L a = 98 then (if inV (aT f L (a + 1) - 48) 0 7 = 0 then (false, a + 1) else if inV (aT f L (a + 2) - 48) 0 6 = 0 then (false, a + 2) else if aT f L (a + 3) = 60 then (true, a + 4) else if aT f L (a + 3) = 124 then (true, a + 4) else if aT f L (a + 3) = 62 then (true, a + 4) else (false, a + 3)) else (false, a)
def rpP (f : Nat → Int32) (L a : Nat) (φ : Nat → Int32) : Nat → Int32 := if aT f L a = 36 then va_up (va_up φ 4 (aT f L a)) 6 (rnQ f L 99 (a + 1)).1 else if aT f L a = 108 then (if inV (aT f L (a + 1) - 48) 0 6 = 0 then va_up (va_up φ 4 (aT f L a)) 5 (aT f L (a + 1) - 48) else if aT f L (a + 2) = 120 then va_up (va_up (va_up φ 4 (aT f L a)) 5 (aT f L (a + 1) - 48)) 6 (rnQ f L 30 (a + 3)).1 else va_up (va_up φ 4 (aT f L a)) 5 (aT f L (a + 1) - 48))
  else if aT f L a = 98 then (if inV (aT f L (a + 1) - 48) 0 7 = 0 then va_up (va_up φ 4 (aT f L a)) 5 (aT f L (a + 1) - 48) else if inV (aT f L (a + 2) - 48) 0 6 = 0 then va_up (va_up (va_up φ 4 (aT f L a)) 5 (aT f L (a + 1) - 48)) 6 (aT f L (a + 2) - 48) else va_up (va_up (va_up (va_up φ 4 (aT f L a)) 5 (aT f L (a + 1) - 48)) 6 (aT f L (a + 2) - 48)) 7 (aT f L (a + 3))) else va_up (va_up φ 4 (aT f L a)) 5 (aT f L (a + 1) - 48)
theorem aT_ge {f : Nat → Int32} {L p : Nat} (h : L ≤ p) : aT f L p = 0 := if_pos h
theorem aT_lt {f : Nat → Int32} {L p : Nat} (h : ¬ aT f L p = 0) : p < L := by
  by_cases hp : L ≤ p
  · exact absurd (aT_ge hp) h
  · omega
theorem rpE_t (p : Nat) : rpE (true, p) = nI p := if_pos rfl
theorem rpE_f (p : Nat) : rpE (false, p) = -1 - nI p := by unfold rpE; simp
theorem rpE_n (p m : Nat) (c : Int32) (hc : c = -1 - nI m) : c - nI p = -1 - nI (p + m) := by
  rw [hc, ← nI_add]
  simp only [Int32.sub_eq_add_neg, Int32.neg_add]
  rw [Int32.add_assoc, Int32.add_comm (-nI m) (-nI p)]

