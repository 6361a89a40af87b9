/-! Ends said by a property of heap and size; throws; the saved boards -/
def zRT (r : Option Value) (S : zH → Nat → Prop) : zO → zH → Nat → Prop := fun o a b => o = .inl r ∧ S a b
def zTX (E : String) (h : zH) (n : Nat) : zO → zH → Nat → Prop := fun o a b => o = .inr E ∧ a = h ∧ n ≤ b
theorem zRTi {v r : Int32} {h : zH} {S : zH → Nat → Prop} {n : Nat} (e1 : v = r) (e2 : S h n) : zRT (some (.int r)) S (.inl (some (.int v))) h n := ⟨by rw [e1], e2⟩
theorem zRTl {v r : Int64} {h : zH} {S : zH → Nat → Prop} {n : Nat} (e1 : v = r) (e2 : S h n) : zRT (some (.long r)) S (.inl (some (.long v))) h n := ⟨by rw [e1], e2⟩
theorem zRTd {v r : UInt64} {h : zH} {S : zH → Nat → Prop} {n : Nat} (e1 : v = r) (e2 : S h n) : zRT (some (.double r)) S (.inl (some (.double v))) h n := ⟨by rw [e1], e2⟩
theorem zRTv {h : zH} {S : zH → Nat → Prop} {n : Nat} (e2 : S h n) : zRT none S (.inl none) h n := ⟨rfl, e2⟩
theorem zRT_x {r : Option Value} {S : zH → Nat → Prop} {E : String} {a : zH} {b : Nat} {Q : Prop} (h : zRT r S (.inr E) a b) : Q := by cases h.1
theorem zRT_v {r v : Option Value} {S : zH → Nat → Prop} {a : zH} {b : Nat} (h : zRT r S (.inl v) a b) : v = r ∧ S a b := ⟨Sum.inl.inj h.1, h.2⟩
theorem zTX_v {v : Option Value} {E : String} {h : zH} {n : Nat} {a : zH} {b : Nat} {Q : Prop} (h : zTX E h n (.inl v) a b) : Q := by cases h.1
theorem zTX_x {E E2 : String} {h : zH} {n : Nat} {a : zH} {b : Nat} (e : zTX E h n (.inr E2) a b) : E2 = E ∧ a = h ∧ n ≤ b := ⟨Sum.inr.inj e.1, e.2⟩

theorem zLaws.callV3 {l : Launch} {D : va_G} {base : Nat} {cc : ByteArray} {own : String} {y : MethodName} {R : Room} {nL : Nat} {Sx : Nat → (Nat → Int32) → Prop} {V : zVT} {X : zXT} (L : zLaws l D base cc own y R nL Sx V X) {pc : Nat} {ls : List (Nat × Value)} {st : List Value} {h : zH} {n k g : Nat} {x na dd2 mc ms maxL : Nat} {y2 : MethodName} {bytes : ByteArray} {ret : Option FieldType} {rest : List Value} {b ci : Nat} {fs : List Value} {As : List Value} {r : Option Value} {S : zH → Nat → Prop} {k2 g2 : Nat} {st2 : List Value} (d : decode cc pc = .ok (.invokevirtual x, 3)) (hM : zCt l D base dd2 y2 (.code y2 bytes maxL ret) (.ref b :: As) h n mc ms (zRT r S)) (hm : zMY y2 bytes maxL ret na) (hv : zLV own x y2) (hb9 : h b = some (.inr (ci, fs))) (hcl : (vwCl[ci]?).map (fun q => q.1) = some y2.cls) (hA : As.length = na) (hst : st = As.reverse ++ .ref b :: rest) (q1 : dd2 + 1 ≤ R.frames) (q2 : 64 * (dd2 + 1) ≤ R.locals) (q3 : zcat rest ≤ 8) (q4 : k + mc ≤ R.cells) (q5 : g + ms ≤ R.slots) (e1 : r.toList ++ rest = st2) (e2 : k + mc = k2) (e3 : g + ms = g2) (kk : ∀ h2 n2, n ≤ n2 → S h2 n2 → V (pc + 3) ls st2 h2 n2 k2 g2) : V pc ls st h n k g := by
  refine L.callV d hM hm hv hb9 hcl hA hst q1 q2 q3 q4 q5 (fun v a b hn hp => ?_) (fun E a b hn hp => zRT_x hp)
  obtain ⟨q1, q2⟩ := zRT_v hp
  rw [q1, e1, e2, e3]
  exact kk _ _ hn q2
theorem zLaws.callVx {l : Launch} {D : va_G} {base : Nat} {cc : ByteArray} {own : String} {y : MethodName} {R : Room} {nL : Nat} {Sx : Nat → (Nat → Int32) → Prop} {V : zVT} {X : zXT} (L : zLaws l D base cc own y R nL Sx V X) {pc : Nat} {ls : List (Nat × Value)} {st : List Value} {h : zH} {n k g : Nat} {x na dd2 mc ms maxL : Nat} {y2 : MethodName} {bytes : ByteArray} {ret : Option FieldType} {rest : List Value} {b ci : Nat} {fs : List Value} {As : List Value} {E : String} {mc0 ms0 : Nat} {P0 : zO → zH → Nat → Prop} (d : decode cc pc = .ok (.invokevirtual x, 3)) (hM : zCt l D base dd2 y2 (.code y2 bytes maxL ret) (.ref b :: As) h n mc ms (zTX E h n)) (hm : zMY y2 bytes maxL ret na) (hv : zLV own x y2) (hb9 : h b = some (.inr (ci, fs))) (hcl : (vwCl[ci]?).map (fun q => q.1) = some y2.cls) (hA : As.length = na) (hst : st = As.reverse ++ .ref b :: rest) (q1 : dd2 + 1 ≤ R.frames) (q2 : 64 * (dd2 + 1) ≤ R.locals) (q3 : zcat rest ≤ 8) (q4 : k + mc ≤ R.cells) (q5 : g + ms ≤ R.slots) (hX : zEndX own cc R mc0 ms0 P0 V X) (w1 : k + mc ≤ mc0) (w2 : g + ms ≤ ms0) (w3 : ∀ n2, n ≤ n2 → P0 (.inr E) h n2) : V pc ls st h n k g := by
  refine L.callV d hM hm hv hb9 hcl hA hst q1 q2 q3 q4 q5 (fun v a b hn hp => zTX_v hp) (fun E2 a b hn hp => ?_)
  obtain ⟨q1, q2, q3⟩ := zTX_x hp
  rw [q1, q2]
  exact hX.2 w1 w2 (w3 _ q3)
theorem zLaws.callS3 {l : Launch} {D : va_G} {base : Nat} {cc : ByteArray} {own : String} {y : MethodName} {R : Room} {nL : Nat} {Sx : Nat → (Nat → Int32) → Prop} {V : zVT} {X : zXT} (L : zLaws l D base cc own y R nL Sx V X) {pc : Nat} {ls : List (Nat × Value)} {st : List Value} {h : zH} {n k g : Nat} {x na dd2 mc ms maxL : Nat} {y2 : MethodName} {bytes : ByteArray} {ret : Option FieldType} {rest : List Value} {As : List Value} {r : Option Value} {S : zH → Nat → Prop} {k2 g2 : Nat} {st2 : List Value} (d : decode cc pc = .ok (.invokestatic x, 3)) (hM : zCt l D base dd2 y2 (.code y2 bytes maxL ret) As h n mc ms (zRT r S)) (hm : zMY y2 bytes maxL ret na) (hv : zLS own x y2) (hA : As.length = na) (hst : st = As.reverse ++ rest) (q1 : dd2 + 1 ≤ R.frames) (q2 : 64 * (dd2 + 1) ≤ R.locals) (q3 : zcat rest ≤ 8) (q4 : k + mc ≤ R.cells) (q5 : g + ms ≤ R.slots) (e1 : r.toList ++ rest = st2) (e2 : k + mc = k2) (e3 : g + ms = g2) (kk : ∀ h2 n2, n ≤ n2 → S h2 n2 → V (pc + 3) ls st2 h2 n2 k2 g2) : V pc ls st h n k g := by
  refine L.callS d hM hm hv hA hst q1 q2 q3 q4 q5 (fun v a b hn hp => ?_) (fun E a b hn hp => zRT_x hp)
  obtain ⟨q1, q2⟩ := zRT_v hp
  rw [q1, e1, e2, e3]
  exact kk _ _ hn q2
theorem zLaws.callSx {l : Launch} {D : va_G} {base : Nat} {cc : ByteArray} {own : String} {y : MethodName} {R : Room} {nL : Nat} {Sx : Nat → (Nat → Int32) → Prop} {V : zVT} {X : zXT} (L : zLaws l D base cc own y R nL Sx V X) {pc : Nat} {ls : List (Nat × Value)} {st : List Value} {h : zH} {n k g : Nat} {x na dd2 mc ms maxL : Nat} {y2 : MethodName} {bytes : ByteArray} {ret : Option FieldType} {rest : List Value} {As : List Value} {E : String} {mc0 ms0 : Nat} {P0 : zO → zH → Nat → Prop} (d : decode cc pc = .ok (.invokestatic x, 3)) (hM : zCt l D base dd2 y2 (.code y2 bytes maxL ret) As h n mc ms (zTX E h n)) (hm : zMY y2 bytes maxL ret na) (hv : zLS own x y2) (hA : As.length = na) (hst : st = As.reverse ++ rest) (q1 : dd2 + 1 ≤ R.frames) (q2 : 64 * (dd2 + 1) ≤ R.locals) (q3 : zcat rest ≤ 8) (q4 : k + mc ≤ R.cells) (q5 : g + ms ≤ R.slots) (hX : zEndX own cc R mc0 ms0 P0 V X) (w1 : k + mc ≤ mc0) (w2 : g + ms ≤ ms0) (w3 : ∀ n2, n ≤ n2 → P0 (.inr E) h n2) : V pc ls st h n k g := by
  refine L.callS d hM hm hv hA hst q1 q2 q3 q4 q5 (fun v a b hn hp => zTX_v hp) (fun E2 a b hn hp => ?_)
  obtain ⟨q1, q2, q3⟩ := zTX_x hp
  rw [q1, q2]
  exact hX.2 w1 w2 (w3 _ q3)
theorem zLaws.callSH3 {l : Launch} {D : va_G} {base : Nat} {cc : ByteArray} {own : String} {y : MethodName} {R : Room} {nL : Nat} {Sx : Nat → (Nat → Int32) → Prop} {V : zVT} {X : zXT} (L : zLaws l D base cc own y R nL Sx V X) {pc : Nat} {ls : List (Nat × Value)} {st : List Value} {h : zH} {n k g : Nat} {x na dd2 mc ms maxL : Nat} {y2 : MethodName} {bytes : ByteArray} {ret : Option FieldType} {rest : List Value} {hh : List (Nat × Nat × Nat × Nat)} {As : List Value} {r : Option Value} {S : zH → Nat → Prop} {k2 g2 : Nat} {st2 : List Value} (d : decode cc pc = .ok (.invokestatic x, 3)) (hM : zCt l D base dd2 y2 (.codeWith y2 bytes maxL ret hh) As h n mc ms (zRT r S)) (hm : zMH y2 bytes maxL ret hh na) (hv : zLS own x y2) (hA : As.length = na) (hst : st = As.reverse ++ rest) (q1 : dd2 + 1 ≤ R.frames) (q2 : 64 * (dd2 + 1) ≤ R.locals) (q3 : zcat rest ≤ 8) (q4 : k + mc ≤ R.cells) (q5 : g + ms ≤ R.slots) (e1 : r.toList ++ rest = st2) (e2 : k + mc = k2) (e3 : g + ms = g2) (kk : ∀ h2 n2, n ≤ n2 → S h2 n2 → V (pc + 3) ls st2 h2 n2 k2 g2) : V pc ls st h n k g := by
  refine L.callSH d hM hm hv hA hst q1 q2 q3 q4 q5 (fun v a b hn hp => ?_) (fun E a b hn hp => zRT_x hp)
  obtain ⟨q1, q2⟩ := zRT_v hp
  rw [q1, e1, e2, e3]
  exact kk _ _ hn q2
theorem zLaws.callSHx {l : Launch} {D : va_G} {base : Nat} {cc : ByteArray} {own : String} {y : MethodName} {R : Room} {nL : Nat} {Sx : Nat → (Nat → Int32) → Prop} {V : zVT} {X : zXT} (L : zLaws l D base cc own y R nL Sx V X) {pc : Nat} {ls : List (Nat × Value)} {st : List Value} {h : zH} {n k g : Nat} {x na dd2 mc ms maxL : Nat} {y2 : MethodName} {bytes : ByteArray} {ret : Option FieldType} {rest : List Value} {hh : List (Nat × Nat × Nat × Nat)} {As : List Value} {E : String} {mc0 ms0 : Nat} {P0 : zO → zH → Nat → Prop} (d : decode cc pc = .ok (.invokestatic x, 3)) (hM : zCt l D base dd2 y2 (.codeWith y2 bytes maxL ret hh) As h n mc ms (zTX E h n)) (hm : zMH y2 bytes maxL ret hh na) (hv : zLS own x y2) (hA : As.length = na) (hst : st = As.reverse ++ rest) (q1 : dd2 + 1 ≤ R.frames) (q2 : 64 * (dd2 + 1) ≤ R.locals) (q3 : zcat rest ≤ 8) (q4 : k + mc ≤ R.cells) (q5 : g + ms ≤ R.slots) (hX : zEndX own cc R mc0 ms0 P0 V X) (w1 : k + mc ≤ mc0) (w2 : g + ms ≤ ms0) (w3 : ∀ n2, n ≤ n2 → P0 (.inr E) h n2) : V pc ls st h n k g := by
  refine L.callSH d hM hm hv hA hst q1 q2 q3 q4 q5 (fun v a b hn hp => zTX_v hp) (fun E2 a b hn hp => ?_)
  obtain ⟨q1, q2, q3⟩ := zTX_x hp
  rw [q1, q2]
  exact hX.2 w1 w2 (w3 _ q3)
theorem zLaws.callSN3 {l : Launch} {D : va_G} {base : Nat} {cc : ByteArray} {own : String} {y : MethodName} {R : Room} {nL : Nat} {Sx : Nat → (Nat → Int32) → Prop} {V : zVT} {X : zXT} (L : zLaws l D base cc own y R nL Sx V X) {pc : Nat} {ls : List (Nat × Value)} {st : List Value} {h : zH} {n k g : Nat} {x na dd2 mc ms maxL : Nat} {y2 : MethodName} {bytes : ByteArray} {ret : Option FieldType} {rest : List Value} {host : String} {As : List Value} {r : Option Value} {S : zH → Nat → Prop} {k2 g2 : Nat} {st2 : List Value} (d : decode cc pc = .ok (.invokestatic x, 3)) (hM : zCt l D base dd2 y2 (.code y2 bytes maxL ret) As h n mc ms (zRT r S)) (hm : zMY y2 bytes maxL ret na) (hv : zLSN own x y2 host) (hA : As.length = na) (hst : st = As.reverse ++ rest) (q1 : dd2 + 1 ≤ R.frames) (q2 : 64 * (dd2 + 1) ≤ R.locals) (q3 : zcat rest ≤ 8) (q4 : k + mc ≤ R.cells) (q5 : g + ms ≤ R.slots) (e1 : r.toList ++ rest = st2) (e2 : k + mc = k2) (e3 : g + ms = g2) (kk : ∀ h2 n2, n ≤ n2 → S h2 n2 → V (pc + 3) ls st2 h2 n2 k2 g2) : V pc ls st h n k g := by
  refine L.callSN d hM hm hv hA hst q1 q2 q3 q4 q5 (fun v a b hn hp => ?_) (fun E a b hn hp => zRT_x hp)
  obtain ⟨q1, q2⟩ := zRT_v hp
  rw [q1, e1, e2, e3]
  exact kk _ _ hn q2
theorem zLaws.callSNx {l : Launch} {D : va_G} {base : Nat} {cc : ByteArray} {own : String} {y : MethodName} {R : Room} {nL : Nat} {Sx : Nat → (Nat → Int32) → Prop} {V : zVT} {X : zXT} (L : zLaws l D base cc own y R nL Sx V X) {pc : Nat} {ls : List (Nat × Value)} {st : List Value} {h : zH} {n k g : Nat} {x na dd2 mc ms maxL : Nat} {y2 : MethodName} {bytes : ByteArray} {ret : Option FieldType} {rest : List Value} {host : String} {As : List Value} {E : String} {mc0 ms0 : Nat} {P0 : zO → zH → Nat → Prop} (d : decode cc pc = .ok (.invokestatic x, 3)) (hM : zCt l D base dd2 y2 (.code y2 bytes maxL ret) As h n mc ms (zTX E h n)) (hm : zMY y2 bytes maxL ret na) (hv : zLSN own x y2 host) (hA : As.length = na) (hst : st = As.reverse ++ rest) (q1 : dd2 + 1 ≤ R.frames) (q2 : 64 * (dd2 + 1) ≤ R.locals) (q3 : zcat rest ≤ 8) (q4 : k + mc ≤ R.cells) (q5 : g + ms ≤ R.slots) (hX : zEndX own cc R mc0 ms0 P0 V X) (w1 : k + mc ≤ mc0) (w2 : g + ms ≤ ms0) (w3 : ∀ n2, n ≤ n2 → P0 (.inr E) h n2) : V pc ls st h n k g := by
  refine L.callSN d hM hm hv hA hst q1 q2 q3 q4 q5 (fun v a b hn hp => zTX_v hp) (fun E2 a b hn hp => ?_)
  obtain ⟨q1, q2, q3⟩ := zTX_x hp
  rw [q1, q2]
  exact hX.2 w1 w2 (w3 _ q3)
theorem zLaws.callI3 {l : Launch} {D : va_G} {base : Nat} {cc : ByteArray} {own : String} {y : MethodName} {R : Room} {nL : Nat} {Sx : Nat → (Nat → Int32) → Prop} {V : zVT} {X : zXT} (L : zLaws l D base cc own y R nL Sx V X) {pc : Nat} {ls : List (Nat × Value)} {st : List Value} {h : zH} {n k g : Nat} {x na dd2 mc ms maxL : Nat} {y2 : MethodName} {bytes : ByteArray} {rest : List Value} {b : Nat} {As : List Value} {r : Option Value} {S : zH → Nat → Prop} {k2 g2 : Nat} {st2 : List Value} (d : decode cc pc = .ok (.invokespecial x, 3)) (hM : zCt l D base dd2 y2 (.code y2 bytes maxL none) (.ref b :: As) h n mc ms (zRT r S)) (hm : zMY y2 bytes maxL none na) (hv : zLI own x y2) (hA : As.length = na) (hst : st = As.reverse ++ .ref b :: rest) (q1 : dd2 + 1 ≤ R.frames) (q2 : 64 * (dd2 + 1) ≤ R.locals) (q3 : zcat rest ≤ 8) (q4 : k + mc ≤ R.cells) (q5 : g + ms ≤ R.slots) (e1 : r.toList ++ rest = st2) (e2 : k + mc = k2) (e3 : g + ms = g2) (kk : ∀ h2 n2, n ≤ n2 → S h2 n2 → V (pc + 3) ls st2 h2 n2 k2 g2) : V pc ls st h n k g := by
  refine L.callI d hM hm hv hA hst q1 q2 q3 q4 q5 (fun v a b hn hp => ?_) (fun E a b hn hp => zRT_x hp)
  obtain ⟨q1, q2⟩ := zRT_v hp
  rw [q1, e1, e2, e3]
  exact kk _ _ hn q2
theorem zLaws.callIx {l : Launch} {D : va_G} {base : Nat} {cc : ByteArray} {own : String} {y : MethodName} {R : Room} {nL : Nat} {Sx : Nat → (Nat → Int32) → Prop} {V : zVT} {X : zXT} (L : zLaws l D base cc own y R nL Sx V X) {pc : Nat} {ls : List (Nat × Value)} {st : List Value} {h : zH} {n k g : Nat} {x na dd2 mc ms maxL : Nat} {y2 : MethodName} {bytes : ByteArray} {rest : List Value} {b : Nat} {As : List Value} {E : String} {mc0 ms0 : Nat} {P0 : zO → zH → Nat → Prop} (d : decode cc pc = .ok (.invokespecial x, 3)) (hM : zCt l D base dd2 y2 (.code y2 bytes maxL none) (.ref b :: As) h n mc ms (zTX E h n)) (hm : zMY y2 bytes maxL none na) (hv : zLI own x y2) (hA : As.length = na) (hst : st = As.reverse ++ .ref b :: rest) (q1 : dd2 + 1 ≤ R.frames) (q2 : 64 * (dd2 + 1) ≤ R.locals) (q3 : zcat rest ≤ 8) (q4 : k + mc ≤ R.cells) (q5 : g + ms ≤ R.slots) (hX : zEndX own cc R mc0 ms0 P0 V X) (w1 : k + mc ≤ mc0) (w2 : g + ms ≤ ms0) (w3 : ∀ n2, n ≤ n2 → P0 (.inr E) h n2) : V pc ls st h n k g := by
  refine L.callI d hM hm hv hA hst q1 q2 q3 q4 q5 (fun v a b hn hp => zTX_v hp) (fun E2 a b hn hp => ?_)
  obtain ⟨q1, q2, q3⟩ := zTX_x hp
  rw [q1, q2]
  exact hX.2 w1 w2 (w3 _ q3)
theorem zLaws.callIN3 {l : Launch} {D : va_G} {base : Nat} {cc : ByteArray} {own : String} {y : MethodName} {R : Room} {nL : Nat} {Sx : Nat → (Nat → Int32) → Prop} {V : zVT} {X : zXT} (L : zLaws l D base cc own y R nL Sx V X) {pc : Nat} {ls : List (Nat × Value)} {st : List Value} {h : zH} {n k g : Nat} {x na dd2 mc ms maxL : Nat} {y2 : MethodName} {bytes : ByteArray} {rest : List Value} {host : String} {b : Nat} {As : List Value} {r : Option Value} {S : zH → Nat → Prop} {k2 g2 : Nat} {st2 : List Value} (d : decode cc pc = .ok (.invokespecial x, 3)) (hM : zCt l D base dd2 y2 (.code y2 bytes maxL none) (.ref b :: As) h n mc ms (zRT r S)) (hm : zMY y2 bytes maxL none na) (hv : zLIN own x y2 host) (hA : As.length = na) (hst : st = As.reverse ++ .ref b :: rest) (q1 : dd2 + 1 ≤ R.frames) (q2 : 64 * (dd2 + 1) ≤ R.locals) (q3 : zcat rest ≤ 8) (q4 : k + mc ≤ R.cells) (q5 : g + ms ≤ R.slots) (e1 : r.toList ++ rest = st2) (e2 : k + mc = k2) (e3 : g + ms = g2) (kk : ∀ h2 n2, n ≤ n2 → S h2 n2 → V (pc + 3) ls st2 h2 n2 k2 g2) : V pc ls st h n k g := by
  refine L.callIN d hM hm hv hA hst q1 q2 q3 q4 q5 (fun v a b hn hp => ?_) (fun E a b hn hp => zRT_x hp)
  obtain ⟨q1, q2⟩ := zRT_v hp
  rw [q1, e1, e2, e3]
  exact kk _ _ hn q2
theorem zLaws.callINx {l : Launch} {D : va_G} {base : Nat} {cc : ByteArray} {own : String} {y : MethodName} {R : Room} {nL : Nat} {Sx : Nat → (Nat → Int32) → Prop} {V : zVT} {X : zXT} (L : zLaws l D base cc own y R nL Sx V X) {pc : Nat} {ls : List (Nat × Value)} {st : List Value} {h : zH} {n k g : Nat} {x na dd2 mc ms maxL : Nat} {y2 : MethodName} {bytes : ByteArray} {rest : List Value} {host : String} {b : Nat} {As : List Value} {E : String} {mc0 ms0 : Nat} {P0 : zO → zH → Nat → Prop} (d : decode cc pc = .ok (.invokespecial x, 3)) (hM : zCt l D base dd2 y2 (.code y2 bytes maxL none) (.ref b :: As) h n mc ms (zTX E h n)) (hm : zMY y2 bytes maxL none na) (hv : zLIN own x y2 host) (hA : As.length = na) (hst : st = As.reverse ++ .ref b :: rest) (q1 : dd2 + 1 ≤ R.frames) (q2 : 64 * (dd2 + 1) ≤ R.locals) (q3 : zcat rest ≤ 8) (q4 : k + mc ≤ R.cells) (q5 : g + ms ≤ R.slots) (hX : zEndX own cc R mc0 ms0 P0 V X) (w1 : k + mc ≤ mc0) (w2 : g + ms ≤ ms0) (w3 : ∀ n2, n ≤ n2 → P0 (.inr E) h n2) : V pc ls st h n k g := by
  refine L.callIN d hM hm hv hA hst q1 q2 q3 q4 q5 (fun v a b hn hp => zTX_v hp) (fun E2 a b hn hp => ?_)
  obtain ⟨q1, q2, q3⟩ := zTX_x hp
  rw [q1, q2]
  exact hX.2 w1 w2 (w3 _ q3)
theorem inV_ix {v : Int32} {k : Nat} (hk : k < 1000) (h : inV v 0 (nI k) = 0) (h1 : ¬ v < 0) : ¬ v < nI (k + 1) := by
  intro h2
  obtain ⟨m, hm, rfl⟩ := nI_of2 (nI_toInt (by omega)) h1 (Int32.le_of_lt h2)
  have h3 := (nI_ltI (by omega) (by omega)).mp h2
  unfold inV at h
  rw [if_neg h1, if_neg (fun q => absurd ((nI_ltI (by omega) (by omega)).mp q) (by omega))] at h
  exact absurd h (by decide)
theorem inV_gt {v lo hi : Int32} (h : inV v lo hi = 0) (h1 : ¬ v < lo) : ¬ v ≤ hi := by
  intro h2
  unfold inV at h
  rw [if_neg h1, if_neg (Int32.not_lt.mpr h2)] at h
  exact absurd h (by decide)

set_option maxRecDepth 100000 in
set_option maxHeartbeats 4000000 in
theorem c_X4_checkIndex_x {l : Launch} {D : va_G} {base : Nat} (G : l.stackTraces = false) {h : zH} {n : Nat} {v : Int32} {k : Nat} (hk : k < 1000) (hb : inV v 0 (nI k) = 0) :
    zCt l D base 6 yX4_checkIndex w_X4_checkIndex [.int v, .int (nI (k + 1))] (h) n 1 6 (zTX "java/lang/IndexOutOfBoundsException" (h) n) := by
  refine zCt.of G (by decide) (Nat.le_of_ble_eq_true rfl) (fun Sx V X hV hE hX => ?_)
  show V 0 [(0, .int v), (1, .int (nI (k + 1)))] [] (h) n 0 0
  refine hV.iload_n 0 dX4_checkIndex_0 rfl ?_
  by_cases c1_1 : v < 0
  · refine hV.if_lt_t (tgt := 9) dX4_checkIndex_1 (by decide) c1_1 ?_
    exact hX.1 rfl th_209 dX4_checkIndex_9 dX4_checkIndex_12 dX4_checkIndex_13 dX4_checkIndex_15 dX4_checkIndex_18 (Nat.le_of_ble_eq_true rfl) (Nat.le_of_ble_eq_true rfl) (by decide) (Nat.le_of_ble_eq_true rfl) (Nat.le_of_ble_eq_true rfl) (Nat.le_of_ble_eq_true rfl) (Nat.le_of_ble_eq_true rfl) (fun n2 hn => ⟨rfl, rfl, hn⟩)
  · refine hV.if_lt_f (tgt := 9) dX4_checkIndex_1 (by decide) c1_1 ?_
    refine hV.iload_n 0 dX4_checkIndex_4 rfl ?_
    refine hV.iload_n 1 dX4_checkIndex_5 rfl ?_
    refine hV.icmp_lt_f (tgt := 19) dX4_checkIndex_6 (by decide) (inV_ix hk hb c1_1) ?_
    exact hX.1 rfl th_209 dX4_checkIndex_9 dX4_checkIndex_12 dX4_checkIndex_13 dX4_checkIndex_15 dX4_checkIndex_18 (Nat.le_of_ble_eq_true rfl) (Nat.le_of_ble_eq_true rfl) (by decide) (Nat.le_of_ble_eq_true rfl) (Nat.le_of_ble_eq_true rfl) (Nat.le_of_ble_eq_true rfl) (Nat.le_of_ble_eq_true rfl) (fun n2 hn => ⟨rfl, rfl, hn⟩)

set_option maxRecDepth 100000 in
set_option maxHeartbeats 4000000 in
theorem c_X4_checkIndex {l : Launch} {D : va_G} {base : Nat} (G : l.stackTraces = false) {h : zH} {n : Nat} {r k : Nat} (hk : k < 1000) (hr : r ≤ k) :
    zCt l D base 1 yX4_checkIndex w_X4_checkIndex [.int (nI r), .int (nI (k + 1))] (h) n 0 0 (zR none (h) (n)) := by
  refine zCt.of G (by decide) (Nat.le_of_ble_eq_true rfl) (fun Sx V X hV hE hX => ?_)
  show V 0 [(0, .int (nI r)), (1, .int (nI (k + 1)))] [] (h) n 0 0
  refine hV.iload_n 0 dX4_checkIndex_0 rfl ?_
  refine hV.if_lt_f (tgt := 9) dX4_checkIndex_1 (by decide) (nI_pos (by omega)) ?_
  refine hV.iload_n 0 dX4_checkIndex_4 rfl ?_
  refine hV.iload_n 1 dX4_checkIndex_5 rfl ?_
  refine hV.icmp_lt_t (tgt := 19) dX4_checkIndex_6 (by decide) ((nI_ltI (a := r) (b := k + 1) (by omega) (by omega)).mpr (by omega)) ?_
  exact hE.2.2.2 dX4_checkIndex_19 rfl (by decide) (by decide) (zRv rfl rfl)

set_option maxRecDepth 100000 in
set_option maxHeartbeats 4000000 in
theorem c_X4_checkValue_x {l : Launch} {D : va_G} {base : Nat} (G : l.stackTraces = false) {h : zH} {n : Nat} {v lo hi : Int32} (hb : inV v lo hi = 0) :
    zCt l D base 6 yX4_checkValue w_X4_checkValue [.int v, .int lo, .int hi] (h) n 1 6 (zTX "java/lang/IllegalArgumentException" (h) n) := by
  refine zCt.of G (by decide) (Nat.le_of_ble_eq_true rfl) (fun Sx V X hV hE hX => ?_)
  show V 0 [(0, .int v), (1, .int lo), (2, .int hi)] [] (h) n 0 0
  refine hV.iload_n 0 dX4_checkValue_0 rfl ?_
  refine hV.iload_n 1 dX4_checkValue_1 rfl ?_
  by_cases c2_1 : v < lo
  · refine hV.icmp_lt_t (tgt := 10) dX4_checkValue_2 (by decide) c2_1 ?_
    exact hX.1 rfl th_212 dX4_checkValue_10 dX4_checkValue_13 dX4_checkValue_14 dX4_checkValue_16 dX4_checkValue_19 (Nat.le_of_ble_eq_true rfl) (Nat.le_of_ble_eq_true rfl) (by decide) (Nat.le_of_ble_eq_true rfl) (Nat.le_of_ble_eq_true rfl) (Nat.le_of_ble_eq_true rfl) (Nat.le_of_ble_eq_true rfl) (fun n2 hn => ⟨rfl, rfl, hn⟩)
  · refine hV.icmp_lt_f (tgt := 10) dX4_checkValue_2 (by decide) c2_1 ?_
    refine hV.iload_n 0 dX4_checkValue_5 rfl ?_
    refine hV.iload_n 2 dX4_checkValue_6 rfl ?_
    refine hV.icmp_le_f (tgt := 20) dX4_checkValue_7 (by decide) (inV_gt hb c2_1) ?_
    exact hX.1 rfl th_212 dX4_checkValue_10 dX4_checkValue_13 dX4_checkValue_14 dX4_checkValue_16 dX4_checkValue_19 (Nat.le_of_ble_eq_true rfl) (Nat.le_of_ble_eq_true rfl) (by decide) (Nat.le_of_ble_eq_true rfl) (Nat.le_of_ble_eq_true rfl) (Nat.le_of_ble_eq_true rfl) (Nat.le_of_ble_eq_true rfl) (fun n2 hn => ⟨rfl, rfl, hn⟩)

set_option maxRecDepth 100000 in
set_option maxHeartbeats 4000000 in
theorem c_X4_checkValue {l : Launch} {D : va_G} {base : Nat} (G : l.stackTraces = false) {h : zH} {n : Nat} {v lo hi : Int32} (hb : ¬ inV v lo hi = 0) :
    zCt l D base 1 yX4_checkValue w_X4_checkValue [.int v, .int lo, .int hi] (h) n 0 0 (zR none (h) (n)) := by
  refine zCt.of G (by decide) (Nat.le_of_ble_eq_true rfl) (fun Sx V X hV hE hX => ?_)
  show V 0 [(0, .int v), (1, .int lo), (2, .int hi)] [] (h) n 0 0
  refine hV.iload_n 0 dX4_checkValue_0 rfl ?_
  refine hV.iload_n 1 dX4_checkValue_1 rfl ?_
  refine hV.icmp_lt_f (tgt := 10) dX4_checkValue_2 (by decide) (inV_ge hb).1 ?_
  refine hV.iload_n 0 dX4_checkValue_5 rfl ?_
  refine hV.iload_n 2 dX4_checkValue_6 rfl ?_
  refine hV.icmp_le_t (tgt := 20) dX4_checkValue_7 (by decide) (Int32.not_lt.mp (inV_ge hb).2) ?_
  exact hE.2.2.2 dX4_checkValue_20 rfl (by decide) (by decide) (zRv rfl rfl)

/-- the saved boards lie in h behind the objects, apart from one another: ring's by place, and the kept one -/
def zExt (a n : Nat) (h : zH) (rf : Nat → Option Nat) (sn : Option Nat) (ρ : Nat → zB) (κ : zB) : Prop :=
  a + 35 ≤ n ∧ (∀ j q, j < 6 → rf j = some q → a + 35 ≤ q ∧ q + 11 ≤ n ∧ zobjAt (0, fsB q) 10 lnB (ρ j) q h) ∧
  (∀ i j q r, i < 6 → j < 6 → i ≠ j → rf i = some q → rf j = some r → q + 11 ≤ r ∨ r + 11 ≤ q) ∧
  (∀ q, sn = some q → a + 35 ≤ q ∧ q + 11 ≤ n ∧ zobjAt (0, fsB q) 10 lnB κ q h ∧ ∀ j r, j < 6 → rf j = some r → q + 11 ≤ r ∨ r + 11 ≤ q)
theorem zExt.mono {a n n2 : Nat} {h : zH} {rf : Nat → Option Nat} {sn : Option Nat} {ρ : Nat → zB} {κ : zB} (hx : zExt a n h rf sn ρ κ) (hn : n ≤ n2) : zExt a n2 h rf sn ρ κ := by
  obtain ⟨h1, h2, h3, h4⟩ := hx
  refine ⟨by omega, fun j q hj hq => ?_, h3, fun q hq => ?_⟩
  · obtain ⟨i1, i2, i3⟩ := h2 j q hj hq
    exact ⟨i1, by omega, i3⟩
  · obtain ⟨i1, i2, i3⟩ := h4 q hq
    exact ⟨i1, by omega, i3⟩
/-- what a save brings: the place J filled with a copy of β -/
def zSv (a n : Nat) (h : zH) (rf : Nat → Option Nat) (sn : Option Nat) (ρ : Nat → zB) (κ : zB) (J : Nat) (β : zB) (h2 : zH) (rf2 : Nat → Option Nat) (n2 : Nat) : Prop :=
  (∀ q, q < a + 35 → h2 q = h q) ∧ rf2 J ≠ none ∧ (∀ j, rf j ≠ none → rf2 j ≠ none) ∧ ∃ α, zExt a n2 h2 rf2 sn (fun j => if j = J then cpB α β else ρ j) κ
theorem zSv_x {a n : Nat} {h : zH} {rf : Nat → Option Nat} {sn : Option Nat} {ρ : Nat → zB} {κ β : zB} {J : Nat} (hx : zExt a n h rf sn ρ κ) (hj : rf J = none) : zSv a n h rf sn ρ κ J β (setB h n (cpB bd0 β)) (va_up rf J (some n)) (n + 11) := by
  obtain ⟨h1, h2, h3, h4⟩ := hx
  have hup : ∀ i q, va_up rf J (some n) i = some q → (i = J ∧ q = n) ∨ (i ≠ J ∧ rf i = some q) := fun i q h => by
    unfold va_up at h
    by_cases e : i = J
    · rw [if_pos e] at h; exact Or.inl ⟨e, (Option.some.inj h).symm⟩
    · rw [if_neg e] at h; exact Or.inr ⟨e, h⟩
  refine ⟨fun q hq => zobj_out (by omega), ?_, fun j hj2 => ?_, bd0, by omega, fun j q hj2 hq => ?_, fun i j q r hi hj2 hij hq hr => ?_, fun q hq => ?_⟩
  · unfold va_up; rw [if_pos rfl]; exact fun h => by cases h
  · unfold va_up
    split
    · exact fun h => by cases h
    · exact hj2
  · rcases hup j q hq with ⟨rfl, rfl⟩ | ⟨e, hq1⟩
    · refine ⟨by omega, by omega, ?_⟩
      dsimp only; rw [if_pos rfl]; exact zobjAt.mk
    · obtain ⟨i1, i2, i3⟩ := h2 j q hj2 hq1
      refine ⟨i1, by omega, ?_⟩
      dsimp only; rw [if_neg e]; exact i3.kept (fun p p1 p2 => zobj_out (by omega))
  · rcases hup i q hq with ⟨rfl, rfl⟩ | ⟨e, hq1⟩ <;> rcases hup j r hr with ⟨rfl, rfl⟩ | ⟨e2, hr1⟩
    · exact absurd rfl hij
    · have := h2 j r hj2 hr1; omega
    · have := h2 i q hi hq1; omega
    · exact h3 i j q r hi hj2 hij hq1 hr1
  · obtain ⟨i1, i2, i3, i4⟩ := h4 q hq
    refine ⟨i1, by omega, i3.kept (fun p p1 p2 => zobj_out (by omega)), fun j r hj2 hr => ?_⟩
    rcases hup j r hr with ⟨rfl, rfl⟩ | ⟨e2, hr1⟩
    · omega
    · exact i4 j r hj2 hr1
theorem zSv_q {a n q : Nat} {h : zH} {rf : Nat → Option Nat} {sn : Option Nat} {ρ : Nat → zB} {κ β : zB} {J : Nat} (hx : zExt a n h rf sn ρ κ) (hJ : J < 6) (hj : rf J = some q) : zSv a n h rf sn ρ κ J β (setB h q (cpB (ρ J) β)) rf n := by
  obtain ⟨h1, h2, h3, h4⟩ := hx
  obtain ⟨k1, k2, k3⟩ := h2 J q hJ hj
  refine ⟨fun q hq => zobj_out (by omega), (fun h => by rw [hj] at h; cases h), fun j h => h, ρ J, h1, fun j r hj2 hr => ?_, h3, fun r hr => ?_⟩
  · obtain ⟨i1, i2, i3⟩ := h2 j r hj2 hr
    refine ⟨i1, i2, ?_⟩
    by_cases e : j = J
    · subst e
      dsimp only; rw [if_pos rfl]
      have : r = q := by rw [hj] at hr; exact (Option.some.inj hr).symm
      rw [this]; exact zobjAt.mk
    · dsimp only; rw [if_neg e]
      have := h3 j J r q hj2 hJ e hr hj
      exact i3.kept (fun p p1 p2 => zobj_out (by omega))
  · obtain ⟨i1, i2, i3, i4⟩ := h4 r hr
    have := i4 J q hJ hj
    exact ⟨i1, i2, i3.kept (fun p p1 p2 => zobj_out (by omega)), i4⟩

set_option maxRecDepth 100000 in
set_option maxHeartbeats 4000000 in
theorem c_X1_save {l : Launch} {D : va_G} {base : Nat} (G : l.stackTraces = false) {h : zH} {n : Nat} {a : Nat} {β τ : zB} {rf : Nat → Option Nat} {φ : Nat → Int32} {c π : zB} {sn : Option Nat} {ρ : Nat → zB} {κ : zB} {u v : Nat} (hu : u < 6) (hv : v ≤ 6) (hx : zExt a n h rf sn ρ κ) :
    zCt l D base 4 yX1_save w_X1_save [.ref (a + 23), .ref (a + 1)] (zTo h a β τ (nI u) (nI v) rf φ c π sn) n 11 235 (zRT none (fun h' n' => ∃ h2 rf2, h' = zTo h2 a β τ (if v < 6 then nI u else nI ((u + 1) % 6)) (if v < 6 then nI (v + 1) else nI v) rf2 φ c π sn ∧ zSv a n h rf sn ρ κ ((u + v) % 6) β h2 rf2 n')) := by
  refine zCt.of G (by decide) (Nat.le_of_ble_eq_true rfl) (fun Sx V X hV hE hX => ?_)
  show V 0 [(0, .ref (a + 23)), (1, .ref (a + 1))] [] (zTo h a β τ (nI u) (nI v) rf φ c π sn) n 0 0
  have hm := Nat.mod_lt (u + v) (show 0 < 6 by decide)
  have hn := hx.1
  rcases hj : rf ((u + v) % 6) with _ | q
  · skip
    refine hV.aload_n 0 dX1_save_0 rfl ?_
    refine hV.getf (v := .int (nI u)) dX1_save_1 fl_X1_17 To_h rfl ?_
    refine hV.aload_n 0 dX1_save_4 rfl ?_
    refine hV.getf (v := .int (nI v)) dX1_save_5 fl_X1_21 To_h rfl ?_
    refine hV.iaddN (a := u) (b := v) dX1_save_8 ?_
    refine hV.bipush (v := 6) dX1_save_9 (by decide) ?_
    refine hV.irem dX1_save_11 (by decide) ?_
    refine zTop (v := nI ((u + v) % 6)) (nI_mod (by omega) 6 (by decide)) ?_
    refine hV.istore_n (ls2 := [(2, .int (nI ((u + v) % 6))), (0, .ref (a + 23)), (1, .ref (a + 1))]) dX1_save_12 (by decide) rfl ?_
    refine hV.aload_n 1 dX1_save_13 rfl ?_
    refine hV.getf (v := .ref (a + 24)) dX1_save_14 fl_X1_11 To_h rfl ?_
    refine hV.iload_n 0 dX1_save_17 rfl ?_
    refine hV.aald (j := (u + v) % 6) dX1_save_18 To_r (zix_nI (by omega)) (by omega) ?_
    rw [hj]
    show V 19 [(2, .int (nI ((u + v) % 6))), (0, .ref (a + 23)), (1, .ref (a + 1))] [.null] (zTo h a β τ (nI u) (nI v) rf φ c π sn) n 0 0
    refine hV.ifnonnullN dX1_save_19 ?_
    refine hV.aload_n 1 dX1_save_22 rfl ?_
    refine hV.getf (v := .ref (a + 24)) dX1_save_23 fl_X1_11 To_h rfl ?_
    refine hV.iload_n 0 dX1_save_26 rfl ?_
    refine hV.new (h2 := zobj (0, [.null, .null, .null, .null, .null, .null, .null, .null, .null, .null]) 0 lnB z0 n (zTo h a β τ (nI u) (nI v) rf φ c π sn)) dX1_save_27 nw_X1_9 (Nat.le_of_ble_eq_true rfl) (Nat.le_of_ble_eq_true rfl) zobj_new ?_
    refine hV.dup dX1_save_30 rfl ?_
    refine hV.callI1 (rest := [.ref n, .int (nI ((u + v) % 6)), .ref (a + 24)]) dX1_save_31 (c_X0_init G (n := 0)) my_X0_init ki_X1_24 rfl rfl (Nat.le_of_ble_eq_true rfl) (Nat.le_of_ble_eq_true rfl) (Nat.le_of_ble_eq_true rfl) (Nat.le_of_ble_eq_true rfl) (Nat.le_of_ble_eq_true rfl) (st2 := [.ref n, .int (nI ((u + v) % 6)), .ref (a + 24)]) (k2 := 11) (g2 := 235) rfl rfl rfl ?_
    refine zHeap (h2 := zTo (setB h n bd0) a β τ (nI u) (nI v) rf φ c π sn) (To_xs (by omega)) ?_
    refine hV.aast (j := (u + v) % 6) (h2 := zTo (setB h n bd0) a β τ (nI u) (nI v) (va_up rf ((u + v) % 6) (some n)) φ c π sn) dX1_save_34 To_r (To_xa zobjAt.mk (by omega)).1 (zix_nI (by omega)) (by omega) To_pr ?_
    refine hV.aload_n 1 dX1_save_35 rfl ?_
    refine hV.getf (v := .ref (a + 24)) dX1_save_36 fl_X1_11 To_h rfl ?_
    refine hV.iload_n 0 dX1_save_39 rfl ?_
    refine hV.aald (j := (u + v) % 6) dX1_save_40 To_r (zix_nI (by omega)) (by omega) ?_
    rw [(show va_up rf ((u + v) % 6) (some n) ((u + v) % 6) = some n from if_pos rfl)]
    show V 41 [(2, .int (nI ((u + v) % 6))), (0, .ref (a + 23)), (1, .ref (a + 1))] [.ref n] (zTo (setB h n bd0) a β τ (nI u) (nI v) (va_up rf ((u + v) % 6) (some n)) φ c π sn) (n + 11) 11 235
    refine hV.aload_n 2 dX1_save_41 rfl ?_
    refine zHeap (h2 := setB (setB (zTo (setB h n bd0) a β τ (nI u) (nI v) (va_up rf ((u + v) % 6) (some n)) φ c π sn) (a + 1) β) n bd0) (((To_xa zobjAt.mk (by omega)).set.symm).trans (congrArg (fun w => setB w n bd0) To_B.set.symm)) ?_
    refine hV.callV1 (rest := []) dX1_save_42 (c_X0_copyFrom G (by omega)) my_X0_copyFrom kv_X1_25 B_o rfl rfl rfl (Nat.le_of_ble_eq_true rfl) (Nat.le_of_ble_eq_true rfl) (Nat.le_of_ble_eq_true rfl) (Nat.le_of_ble_eq_true rfl) (Nat.le_of_ble_eq_true rfl) (st2 := []) (k2 := 11) (g2 := 235) rfl rfl rfl ?_
    refine zHeap (h2 := zTo (setB h n (cpB bd0 β)) a β τ (nI u) (nI v) (va_up rf ((u + v) % 6) (some n)) φ c π sn) (((congrArg (fun w => setB w n (cpB bd0 β)) To_B.set).trans (To_xs (by omega))).trans (congrArg (fun w => zTo w a β τ _ _ _ φ c π sn) zobj_zobj)) ?_
    refine hV.aload_n 1 dX1_save_45 rfl ?_
    refine hV.getf (v := .int (nI v)) dX1_save_46 fl_X1_21 To_h rfl ?_
    refine hV.bipush (v := 6) dX1_save_49 (by decide) ?_
    by_cases c51_1 : 6 ≤ v
    · refine hV.icmp_ge_t (tgt := 67) dX1_save_51 (by decide) ((nI_leI (a := 6) (b := v) (by omega) (by omega)).mpr c51_1) ?_
      refine hV.aload_n 1 dX1_save_67 rfl ?_
      refine hV.aload_n 1 dX1_save_68 rfl ?_
      refine hV.getf (v := .int (nI u)) dX1_save_69 fl_X1_17 To_h rfl ?_
      refine hV.iconst (v := 1) dX1_save_72 (by decide) ?_
      refine hV.iaddN (a := u) (b := 1) dX1_save_73 ?_
      refine hV.bipush (v := 6) dX1_save_74 (by decide) ?_
      refine hV.irem dX1_save_76 (by decide) ?_
      refine zTop (v := nI ((u + 1) % 6)) (nI_mod (by omega) 6 (by decide)) ?_
      refine hV.putf dX1_save_77 fp_X1_17 To_h (Nat.le_of_ble_eq_true rfl) rfl rfl To_ph ?_
      exact hE.2.2.2 dX1_save_80 rfl (Nat.le_of_ble_eq_true rfl) (Nat.le_of_ble_eq_true rfl) (zRTv ⟨_, _, (by simp only [if_neg (show ¬ v < 6 by omega)]), zSv_x hx hj⟩)
    · refine hV.icmp_ge_f (tgt := 67) dX1_save_51 (by decide) (fun q => absurd ((nI_leI (a := 6) (b := v) (by omega) (by omega)).mp q) c51_1) ?_
      refine hV.aload_n 1 dX1_save_54 rfl ?_
      refine hV.dup dX1_save_55 rfl ?_
      refine hV.getf (v := .int (nI v)) dX1_save_56 fl_X1_21 To_h rfl ?_
      refine hV.iconst (v := 1) dX1_save_59 (by decide) ?_
      refine hV.iaddN (a := v) (b := 1) dX1_save_60 ?_
      refine hV.putf dX1_save_61 fp_X1_21 To_h (Nat.le_of_ble_eq_true rfl) rfl rfl To_ph ?_
      refine hV.goto (tgt := 80) dX1_save_64 (by decide) ?_
      exact hE.2.2.2 dX1_save_80 rfl (Nat.le_of_ble_eq_true rfl) (Nat.le_of_ble_eq_true rfl) (zRTv ⟨_, _, (by simp only [if_pos (show v < 6 by omega)]), zSv_x hx hj⟩)
  · skip
    obtain ⟨hq1, hq2, hq3⟩ := hx.2.1 _ q hm hj
    refine hV.aload_n 0 dX1_save_0 rfl ?_
    refine hV.getf (v := .int (nI u)) dX1_save_1 fl_X1_17 To_h rfl ?_
    refine hV.aload_n 0 dX1_save_4 rfl ?_
    refine hV.getf (v := .int (nI v)) dX1_save_5 fl_X1_21 To_h rfl ?_
    refine hV.iaddN (a := u) (b := v) dX1_save_8 ?_
    refine hV.bipush (v := 6) dX1_save_9 (by decide) ?_
    refine hV.irem dX1_save_11 (by decide) ?_
    refine zTop (v := nI ((u + v) % 6)) (nI_mod (by omega) 6 (by decide)) ?_
    refine hV.istore_n (ls2 := [(2, .int (nI ((u + v) % 6))), (0, .ref (a + 23)), (1, .ref (a + 1))]) dX1_save_12 (by decide) rfl ?_
    refine hV.aload_n 1 dX1_save_13 rfl ?_
    refine hV.getf (v := .ref (a + 24)) dX1_save_14 fl_X1_11 To_h rfl ?_
    refine hV.iload_n 0 dX1_save_17 rfl ?_
    refine hV.aald (j := (u + v) % 6) dX1_save_18 To_r (zix_nI (by omega)) (by omega) ?_
    rw [hj]
    show V 19 [(2, .int (nI ((u + v) % 6))), (0, .ref (a + 23)), (1, .ref (a + 1))] [.ref q] (zTo h a β τ (nI u) (nI v) rf φ c π sn) n 0 0
    refine hV.ifnonnull (tgt := 35) dX1_save_19 (by decide) ?_
    refine hV.aload_n 1 dX1_save_35 rfl ?_
    refine hV.getf (v := .ref (a + 24)) dX1_save_36 fl_X1_11 To_h rfl ?_
    refine hV.iload_n 0 dX1_save_39 rfl ?_
    refine hV.aald (j := (u + v) % 6) dX1_save_40 To_r (zix_nI (by omega)) (by omega) ?_
    rw [hj]
    show V 41 [(2, .int (nI ((u + v) % 6))), (0, .ref (a + 23)), (1, .ref (a + 1))] [.ref q] (zTo h a β τ (nI u) (nI v) rf φ c π sn) n 0 0
    refine hV.aload_n 2 dX1_save_41 rfl ?_
    refine zHeap (h2 := setB (setB (zTo h a β τ (nI u) (nI v) rf φ c π sn) (a + 1) β) q (ρ ((u + v) % 6))) (((To_xa hq3 (by omega)).set.symm).trans (congrArg (fun w => setB w q (ρ ((u + v) % 6))) To_B.set.symm)) ?_
    refine hV.callV1 (rest := []) dX1_save_42 (c_X0_copyFrom G (by omega)) my_X0_copyFrom kv_X1_25 B_o rfl rfl rfl (Nat.le_of_ble_eq_true rfl) (Nat.le_of_ble_eq_true rfl) (Nat.le_of_ble_eq_true rfl) (Nat.le_of_ble_eq_true rfl) (Nat.le_of_ble_eq_true rfl) (st2 := []) (k2 := 0) (g2 := 0) rfl rfl rfl ?_
    refine zHeap (h2 := zTo (setB h q (cpB (ρ ((u + v) % 6)) β)) a β τ (nI u) (nI v) rf φ c π sn) ((congrArg (fun w => setB w q (cpB (ρ ((u + v) % 6)) β)) To_B.set).trans (To_xs (by omega))) ?_
    refine hV.aload_n 1 dX1_save_45 rfl ?_
    refine hV.getf (v := .int (nI v)) dX1_save_46 fl_X1_21 To_h rfl ?_
    refine hV.bipush (v := 6) dX1_save_49 (by decide) ?_
    by_cases c51_2 : 6 ≤ v
    · refine hV.icmp_ge_t (tgt := 67) dX1_save_51 (by decide) ((nI_leI (a := 6) (b := v) (by omega) (by omega)).mpr c51_2) ?_
      refine hV.aload_n 1 dX1_save_67 rfl ?_
      refine hV.aload_n 1 dX1_save_68 rfl ?_
      refine hV.getf (v := .int (nI u)) dX1_save_69 fl_X1_17 To_h rfl ?_
      refine hV.iconst (v := 1) dX1_save_72 (by decide) ?_
      refine hV.iaddN (a := u) (b := 1) dX1_save_73 ?_
      refine hV.bipush (v := 6) dX1_save_74 (by decide) ?_
      refine hV.irem dX1_save_76 (by decide) ?_
      refine zTop (v := nI ((u + 1) % 6)) (nI_mod (by omega) 6 (by decide)) ?_
      refine hV.putf dX1_save_77 fp_X1_17 To_h (Nat.le_of_ble_eq_true rfl) rfl rfl To_ph ?_
      exact hE.2.2.2 dX1_save_80 rfl (Nat.le_of_ble_eq_true rfl) (Nat.le_of_ble_eq_true rfl) (zRTv ⟨_, _, (by simp only [if_neg (show ¬ v < 6 by omega)]), zSv_q hx hm hj⟩)
    · refine hV.icmp_ge_f (tgt := 67) dX1_save_51 (by decide) (fun q => absurd ((nI_leI (a := 6) (b := v) (by omega) (by omega)).mp q) c51_2) ?_
      refine hV.aload_n 1 dX1_save_54 rfl ?_
      refine hV.dup dX1_save_55 rfl ?_
      refine hV.getf (v := .int (nI v)) dX1_save_56 fl_X1_21 To_h rfl ?_
      refine hV.iconst (v := 1) dX1_save_59 (by decide) ?_
      refine hV.iaddN (a := v) (b := 1) dX1_save_60 ?_
      refine hV.putf dX1_save_61 fp_X1_21 To_h (Nat.le_of_ble_eq_true rfl) rfl rfl To_ph ?_
      refine hV.goto (tgt := 80) dX1_save_64 (by decide) ?_
      exact hE.2.2.2 dX1_save_80 rfl (Nat.le_of_ble_eq_true rfl) (Nat.le_of_ble_eq_true rfl) (zRTv ⟨_, _, (by simp only [if_pos (show v < 6 by omega)]), zSv_q hx hm hj⟩)

