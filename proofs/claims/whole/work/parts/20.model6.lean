/-! A contract's end of which the heap is said by a property -/
theorem sa_56 {μ : zB} {x y x2 y2 : Nat → Int32} : sa (sa (sa (sa μ 5 x) 6 y) 5 x2) 6 y2 = sa (sa μ 5 x2) 6 y2 := by rw [sa_sw (by decide), sa_sa]
def zRE (r : Option Value) (S : zH → Prop) (n2 : Nat) : zO → zH → Nat → Prop := fun o a b => o = .inl r ∧ S a ∧ b = n2
theorem zREi {v r : Int32} {h : zH} {S : zH → Prop} {n n2 : Nat} (e1 : v = r) (e2 : S h) (e3 : n = n2) : zRE (some (.int r)) S n2 (.inl (some (.int v))) h n := ⟨by rw [e1], e2, e3⟩
theorem zREl {v r : Int64} {h : zH} {S : zH → Prop} {n n2 : Nat} (e1 : v = r) (e2 : S h) (e3 : n = n2) : zRE (some (.long r)) S n2 (.inl (some (.long v))) h n := ⟨by rw [e1], e2, e3⟩
theorem zREd {v r : UInt64} {h : zH} {S : zH → Prop} {n n2 : Nat} (e1 : v = r) (e2 : S h) (e3 : n = n2) : zRE (some (.double r)) S n2 (.inl (some (.double v))) h n := ⟨by rw [e1], e2, e3⟩
theorem zREv {h : zH} {S : zH → Prop} {n n2 : Nat} (e2 : S h) (e3 : n = n2) : zRE none S n2 (.inl none) h n := ⟨rfl, e2, e3⟩
theorem zRE_x {r : Option Value} {S : zH → Prop} {n2 : Nat} {E : String} {a : zH} {b : Nat} {Q : Prop} (h : zRE r S n2 (.inr E) a b) : Q := by cases h.1
theorem zRE_v {r v : Option Value} {S : zH → Prop} {a : zH} {n2 b : Nat} (h : zRE r S n2 (.inl v) a b) : v = r ∧ S a ∧ b = n2 := ⟨Sum.inl.inj h.1, h.2.1, h.2.2⟩
theorem zLaws.callV2 {l : Launch} {D : va_G} {base : Nat} {cc : ByteArray} {own : String} {y : MethodName} {R : Room} {nL : Nat} {Sx : Nat → (Nat → Int32) → Prop} {V : zVT} {X : zXT} (L : zLaws l D base cc own y R nL Sx V X) {pc : Nat} {ls : List (Nat × Value)} {st : List Value} {h : zH} {n k g : Nat} {x na dd2 mc ms maxL : Nat} {y2 : MethodName} {bytes : ByteArray} {ret : Option FieldType} {rest : List Value} {b ci : Nat} {fs : List Value} {As : List Value} {r : Option Value} {S : zH → Prop} {n2 k2 g2 : Nat} {st2 : List Value} (d : decode cc pc = .ok (.invokevirtual x, 3)) (hM : zCt l D base dd2 y2 (.code y2 bytes maxL ret) (.ref b :: As) h n mc ms (zRE r S n2)) (hm : zMY y2 bytes maxL ret na) (hv : zLV own x y2) (hb9 : h b = some (.inr (ci, fs))) (hcl : (vwCl[ci]?).map (fun q => q.1) = some y2.cls) (hA : As.length = na) (hst : st = As.reverse ++ .ref b :: rest) (q1 : dd2 + 1 ≤ R.frames) (q2 : 64 * (dd2 + 1) ≤ R.locals) (q3 : zcat rest ≤ 8) (q4 : k + mc ≤ R.cells) (q5 : g + ms ≤ R.slots) (e1 : r.toList ++ rest = st2) (e2 : k + mc = k2) (e3 : g + ms = g2) (kk : ∀ h2, S h2 → V (pc + 3) ls st2 h2 n2 k2 g2) : V pc ls st h n k g := by
  refine L.callV d hM hm hv hb9 hcl hA hst q1 q2 q3 q4 q5 (fun v a b hn hp => ?_) (fun E a b hn hp => zRE_x hp)
  obtain ⟨q1, q2, q3⟩ := zRE_v hp
  rw [q1, q3, e1, e2, e3]
  exact kk _ q2
theorem zLaws.callS2 {l : Launch} {D : va_G} {base : Nat} {cc : ByteArray} {own : String} {y : MethodName} {R : Room} {nL : Nat} {Sx : Nat → (Nat → Int32) → Prop} {V : zVT} {X : zXT} (L : zLaws l D base cc own y R nL Sx V X) {pc : Nat} {ls : List (Nat × Value)} {st : List Value} {h : zH} {n k g : Nat} {x na dd2 mc ms maxL : Nat} {y2 : MethodName} {bytes : ByteArray} {ret : Option FieldType} {rest : List Value} {As : List Value} {r : Option Value} {S : zH → Prop} {n2 k2 g2 : Nat} {st2 : List Value} (d : decode cc pc = .ok (.invokestatic x, 3)) (hM : zCt l D base dd2 y2 (.code y2 bytes maxL ret) As h n mc ms (zRE r S n2)) (hm : zMY y2 bytes maxL ret na) (hv : zLS own x y2) (hA : As.length = na) (hst : st = As.reverse ++ rest) (q1 : dd2 + 1 ≤ R.frames) (q2 : 64 * (dd2 + 1) ≤ R.locals) (q3 : zcat rest ≤ 8) (q4 : k + mc ≤ R.cells) (q5 : g + ms ≤ R.slots) (e1 : r.toList ++ rest = st2) (e2 : k + mc = k2) (e3 : g + ms = g2) (kk : ∀ h2, S h2 → V (pc + 3) ls st2 h2 n2 k2 g2) : V pc ls st h n k g := by
  refine L.callS d hM hm hv hA hst q1 q2 q3 q4 q5 (fun v a b hn hp => ?_) (fun E a b hn hp => zRE_x hp)
  obtain ⟨q1, q2, q3⟩ := zRE_v hp
  rw [q1, q3, e1, e2, e3]
  exact kk _ q2
theorem zLaws.callSH2 {l : Launch} {D : va_G} {base : Nat} {cc : ByteArray} {own : String} {y : MethodName} {R : Room} {nL : Nat} {Sx : Nat → (Nat → Int32) → Prop} {V : zVT} {X : zXT} (L : zLaws l D base cc own y R nL Sx V X) {pc : Nat} {ls : List (Nat × Value)} {st : List Value} {h : zH} {n k g : Nat} {x na dd2 mc ms maxL : Nat} {y2 : MethodName} {bytes : ByteArray} {ret : Option FieldType} {rest : List Value} {hh : List (Nat × Nat × Nat × Nat)} {As : List Value} {r : Option Value} {S : zH → Prop} {n2 k2 g2 : Nat} {st2 : List Value} (d : decode cc pc = .ok (.invokestatic x, 3)) (hM : zCt l D base dd2 y2 (.codeWith y2 bytes maxL ret hh) As h n mc ms (zRE r S n2)) (hm : zMH y2 bytes maxL ret hh na) (hv : zLS own x y2) (hA : As.length = na) (hst : st = As.reverse ++ rest) (q1 : dd2 + 1 ≤ R.frames) (q2 : 64 * (dd2 + 1) ≤ R.locals) (q3 : zcat rest ≤ 8) (q4 : k + mc ≤ R.cells) (q5 : g + ms ≤ R.slots) (e1 : r.toList ++ rest = st2) (e2 : k + mc = k2) (e3 : g + ms = g2) (kk : ∀ h2, S h2 → V (pc + 3) ls st2 h2 n2 k2 g2) : V pc ls st h n k g := by
  refine L.callSH d hM hm hv hA hst q1 q2 q3 q4 q5 (fun v a b hn hp => ?_) (fun E a b hn hp => zRE_x hp)
  obtain ⟨q1, q2, q3⟩ := zRE_v hp
  rw [q1, q3, e1, e2, e3]
  exact kk _ q2
theorem zLaws.callSN2 {l : Launch} {D : va_G} {base : Nat} {cc : ByteArray} {own : String} {y : MethodName} {R : Room} {nL : Nat} {Sx : Nat → (Nat → Int32) → Prop} {V : zVT} {X : zXT} (L : zLaws l D base cc own y R nL Sx V X) {pc : Nat} {ls : List (Nat × Value)} {st : List Value} {h : zH} {n k g : Nat} {x na dd2 mc ms maxL : Nat} {y2 : MethodName} {bytes : ByteArray} {ret : Option FieldType} {rest : List Value} {host : String} {As : List Value} {r : Option Value} {S : zH → Prop} {n2 k2 g2 : Nat} {st2 : List Value} (d : decode cc pc = .ok (.invokestatic x, 3)) (hM : zCt l D base dd2 y2 (.code y2 bytes maxL ret) As h n mc ms (zRE r S n2)) (hm : zMY y2 bytes maxL ret na) (hv : zLSN own x y2 host) (hA : As.length = na) (hst : st = As.reverse ++ rest) (q1 : dd2 + 1 ≤ R.frames) (q2 : 64 * (dd2 + 1) ≤ R.locals) (q3 : zcat rest ≤ 8) (q4 : k + mc ≤ R.cells) (q5 : g + ms ≤ R.slots) (e1 : r.toList ++ rest = st2) (e2 : k + mc = k2) (e3 : g + ms = g2) (kk : ∀ h2, S h2 → V (pc + 3) ls st2 h2 n2 k2 g2) : V pc ls st h n k g := by
  refine L.callSN d hM hm hv hA hst q1 q2 q3 q4 q5 (fun v a b hn hp => ?_) (fun E a b hn hp => zRE_x hp)
  obtain ⟨q1, q2, q3⟩ := zRE_v hp
  rw [q1, q3, e1, e2, e3]
  exact kk _ q2
theorem zLaws.callI2 {l : Launch} {D : va_G} {base : Nat} {cc : ByteArray} {own : String} {y : MethodName} {R : Room} {nL : Nat} {Sx : Nat → (Nat → Int32) → Prop} {V : zVT} {X : zXT} (L : zLaws l D base cc own y R nL Sx V X) {pc : Nat} {ls : List (Nat × Value)} {st : List Value} {h : zH} {n k g : Nat} {x na dd2 mc ms maxL : Nat} {y2 : MethodName} {bytes : ByteArray} {rest : List Value} {b : Nat} {As : List Value} {r : Option Value} {S : zH → Prop} {n2 k2 g2 : Nat} {st2 : List Value} (d : decode cc pc = .ok (.invokespecial x, 3)) (hM : zCt l D base dd2 y2 (.code y2 bytes maxL none) (.ref b :: As) h n mc ms (zRE r S n2)) (hm : zMY y2 bytes maxL none na) (hv : zLI own x y2) (hA : As.length = na) (hst : st = As.reverse ++ .ref b :: rest) (q1 : dd2 + 1 ≤ R.frames) (q2 : 64 * (dd2 + 1) ≤ R.locals) (q3 : zcat rest ≤ 8) (q4 : k + mc ≤ R.cells) (q5 : g + ms ≤ R.slots) (e1 : r.toList ++ rest = st2) (e2 : k + mc = k2) (e3 : g + ms = g2) (kk : ∀ h2, S h2 → V (pc + 3) ls st2 h2 n2 k2 g2) : V pc ls st h n k g := by
  refine L.callI d hM hm hv hA hst q1 q2 q3 q4 q5 (fun v a b hn hp => ?_) (fun E a b hn hp => zRE_x hp)
  obtain ⟨q1, q2, q3⟩ := zRE_v hp
  rw [q1, q3, e1, e2, e3]
  exact kk _ q2
theorem zLaws.callIN2 {l : Launch} {D : va_G} {base : Nat} {cc : ByteArray} {own : String} {y : MethodName} {R : Room} {nL : Nat} {Sx : Nat → (Nat → Int32) → Prop} {V : zVT} {X : zXT} (L : zLaws l D base cc own y R nL Sx V X) {pc : Nat} {ls : List (Nat × Value)} {st : List Value} {h : zH} {n k g : Nat} {x na dd2 mc ms maxL : Nat} {y2 : MethodName} {bytes : ByteArray} {rest : List Value} {host : String} {b : Nat} {As : List Value} {r : Option Value} {S : zH → Prop} {n2 k2 g2 : Nat} {st2 : List Value} (d : decode cc pc = .ok (.invokespecial x, 3)) (hM : zCt l D base dd2 y2 (.code y2 bytes maxL none) (.ref b :: As) h n mc ms (zRE r S n2)) (hm : zMY y2 bytes maxL none na) (hv : zLIN own x y2 host) (hA : As.length = na) (hst : st = As.reverse ++ .ref b :: rest) (q1 : dd2 + 1 ≤ R.frames) (q2 : 64 * (dd2 + 1) ≤ R.locals) (q3 : zcat rest ≤ 8) (q4 : k + mc ≤ R.cells) (q5 : g + ms ≤ R.slots) (e1 : r.toList ++ rest = st2) (e2 : k + mc = k2) (e3 : g + ms = g2) (kk : ∀ h2, S h2 → V (pc + 3) ls st2 h2 n2 k2 g2) : V pc ls st h n k g := by
  refine L.callIN d hM hm hv hA hst q1 q2 q3 q4 q5 (fun v a b hn hp => ?_) (fun E a b hn hp => zRE_x hp)
  obtain ⟨q1, q2, q3⟩ := zRE_v hp
  rw [q1, q3, e1, e2, e3]
  exact kk _ q2
set_option maxRecDepth 100000 in
set_option maxHeartbeats 4000000 in
theorem c_X5_findBestColumn {l : Launch} {D : va_G} {base : Nat} (G : l.stackTraces = false) {h : zH} {n : Nat} {b : Nat} {μ : zB} {φ : Nat → Int32} (hall : ∀ c, c < 7 → ¬ alN (wv (μ 0) c) 7 = 0) :
    zCt l D base 5 yX5_findBestColumn w_X5_findBestColumn [.ref b] (setM h b φ μ) n 0 0 (zRE (some (.int ((bcN (μ 0) 7).1))) (fun h' => ∃ x y, h' = setM h b φ (sa (sa μ 5 x) 6 y)) n) := by
  refine zCt.of G (by decide) (Nat.le_of_ble_eq_true rfl) (fun Sx V X hV hE hX => ?_)
  show V 0 [(0, .ref b)] [] (setM h b φ μ) n 0 0
  refine hV.iconst (v := (-1)) dX5_findBestColumn_0 (by decide) ?_
  refine hV.istore_n (ls2 := [(1, .int (-1)), (0, .ref b)]) dX5_findBestColumn_1 (by decide) rfl ?_
  refine hV.iconst (v := (-1)) dX5_findBestColumn_2 (by decide) ?_
  refine hV.istore_n (ls2 := [(2, .int (-1)), (1, .int (-1)), (0, .ref b)]) dX5_findBestColumn_3 (by decide) rfl ?_
  refine hV.iconst (v := 0) dX5_findBestColumn_4 (by decide) ?_
  refine hV.istore_n (ls2 := [(3, .int 0), (2, .int (-1)), (1, .int (-1)), (0, .ref b)]) dX5_findBestColumn_5 (by decide) rfl ?_
  refine zHeap (h2 := setM h b φ (sa (sa μ 5 (μ 5)) 6 (μ 6))) (by exact (congrArg (fun z => setM h b φ z) (sa2_self μ)).symm) ?_
  have loop : ∀ (k c : Nat) (best most : Int32) (x y : Nat → Int32), c + k = 7 → ((best, most) = bcN (μ 0) c) → V 6 [(3, .int (nI c)), (2, .int most), (1, .int best), (0, .ref b)] [] (setM h b φ (sa (sa μ 5 x) 6 y)) n 0 0 := by
    intro k
    induction k with
    | zero =>
      intro c best most x y hc hb
      refine hV.iload_n 0 dX5_findBestColumn_6 rfl ?_
      refine hV.bipush (v := 7) dX5_findBestColumn_7 (by decide) ?_
      refine hV.icmp_ge_t (tgt := 126) dX5_findBestColumn_9 (by decide) ((nI_leI (a := 7) (b := c) (by omega) (by omega)).mpr (by omega)) ?_
      refine hV.iload_n 2 dX5_findBestColumn_126 rfl ?_
      exact hE.1 dX5_findBestColumn_127 rfl rfl  (Nat.le_of_ble_eq_true rfl) (Nat.le_of_ble_eq_true rfl) (zREi (by have e7 : c = 7 := (by omega); subst e7; rw [← hb]) ⟨_, _, rfl⟩ rfl)
    | succ k ih =>
      intro c best most x y hc hb
      refine hV.iload_n 0 dX5_findBestColumn_6 rfl ?_
      refine hV.bipush (v := 7) dX5_findBestColumn_7 (by decide) ?_
      refine hV.icmp_ge_f (tgt := 126) dX5_findBestColumn_9 (by decide) (fun q => absurd ((nI_leI (a := 7) (b := c) (by omega) (by omega)).mp q) (by omega)) ?_
      refine hV.aload_n 3 dX5_findBestColumn_12 rfl ?_
      refine hV.iload_n 0 dX5_findBestColumn_13 rfl ?_
      refine hV.callV1 (rest := []) dX5_findBestColumn_14 (c_X5_findWays G (c := c) (by omega)) my_X5_findWays kv_X5_152 M_o rfl rfl rfl (Nat.le_of_ble_eq_true rfl) (Nat.le_of_ble_eq_true rfl) (Nat.le_of_ble_eq_true rfl) (Nat.le_of_ble_eq_true rfl) (Nat.le_of_ble_eq_true rfl) (st2 := []) (k2 := 0) (g2 := 0) rfl rfl rfl ?_
      refine zHeap (h2 := setM h b φ (sa (sa μ 5 ((fwQ (μ 0) c x y).1)) 6 ((fwQ (μ 0) c x y).2))) (by simp only [sa_56]; rfl) ?_
      refine hV.iconst (v := 0) dX5_findBestColumn_17 (by decide) ?_
      refine hV.istore (ls2 := [(4, .int 0), (3, .int (nI c)), (2, .int most), (1, .int best), (0, .ref b)]) dX5_findBestColumn_18 (by decide) rfl ?_
      refine hV.iconst (v := 0) dX5_findBestColumn_20 (by decide) ?_
      refine hV.istore (ls2 := [(5, .int 0), (4, .int 0), (3, .int (nI c)), (2, .int most), (1, .int best), (0, .ref b)]) dX5_findBestColumn_21 (by decide) rfl ?_
      refine hV.iconst (v := 0) dX5_findBestColumn_23 (by decide) ?_
      refine hV.istore (ls2 := [(6, .int 0), (5, .int 0), (4, .int 0), (3, .int (nI c)), (2, .int most), (1, .int best), (0, .ref b)]) dX5_findBestColumn_24 (by decide) rfl ?_
      obtain ⟨x2, hx2⟩ : ∃ x2, x2 = (fwQ (μ 0) c x y).1 := ⟨_, rfl⟩
      obtain ⟨y2, hy2⟩ : ∃ y2, y2 = (fwQ (μ 0) c x y).2 := ⟨_, rfl⟩
      rw [← hx2, ← hy2]
      have loop2 : ∀ (k2 pk : Nat) (sm al : Int32), pk + k2 = 7 → (sm = smN (μ 0) x2 pk) → (al = alN x2 pk) → V 26 [(6, .int (nI pk)), (5, .int al), (4, .int sm), (3, .int (nI c)), (2, .int most), (1, .int best), (0, .ref b)] [] (setM h b φ (sa (sa μ 5 x2) 6 y2)) n 0 0 := by
        intro k2
        induction k2 with
        | zero =>
          intro pk sm al hpk hs ha
          refine hV.iload 0 dX5_findBestColumn_26 rfl ?_
          refine hV.bipush (v := 7) dX5_findBestColumn_28 (by decide) ?_
          refine hV.icmp_ge_t (tgt := 84) dX5_findBestColumn_30 (by decide) ((nI_leI (a := 7) (b := pk) (by omega) (by omega)).mpr (by omega)) ?_
          have e7 : pk = 7 := (by omega)
          rw [e7] at hs ha
          have hwv : ∀ k, k < 7 → x2 k = wv (μ 0) c k := fun k hk => by rw [hx2]; exact fwQ_wv hk
          have hal9 : ¬ al = 0 := by rw [ha, alN_ind hwv 7 (by omega)]; exact hall c (by omega)
          refine hV.iload 2 dX5_findBestColumn_84 rfl ?_
          refine hV.sipush (v := 1000) dX5_findBestColumn_86 (by decide) ?_
          refine hV.imul dX5_findBestColumn_89 ?_
          refine hV.iload 1 dX5_findBestColumn_90 rfl ?_
          refine hV.idiv dX5_findBestColumn_92 hal9 ?_
          obtain ⟨ms, hms⟩ : ∃ ms : Int32, ms = msV (μ 0) (wv (μ 0) c) := ⟨_, rfl⟩
          refine zTop (v := ms) (by rw [hms, ← msV_ind hwv, hs, ha]; rfl) ?_
          refine hV.istore (ls2 := [(6, .int ms), (5, .int al), (4, .int sm), (3, .int (nI c)), (2, .int most), (1, .int best), (0, .ref b)]) dX5_findBestColumn_93 (by decide) rfl ?_
          refine hV.iload 0 dX5_findBestColumn_95 rfl ?_
          refine hV.iload_n 4 dX5_findBestColumn_97 rfl ?_
          by_cases c98_1 : ms ≤ most
          · refine hV.icmp_le_t (tgt := 105) dX5_findBestColumn_98 (by decide) c98_1 ?_
            refine hV.iload_n 5 dX5_findBestColumn_105 rfl ?_
            refine hV.istore_n (ls2 := [(1, .int best), (6, .int ms), (5, .int al), (4, .int sm), (3, .int (nI c)), (2, .int most), (0, .ref b)]) dX5_findBestColumn_106 (by decide) rfl ?_
            refine hV.iload 1 dX5_findBestColumn_107 rfl ?_
            refine hV.iload_n 5 dX5_findBestColumn_109 rfl ?_
            refine hV.icmp_le_t (tgt := 118) dX5_findBestColumn_110 (by decide) c98_1 ?_
            refine hV.iload_n 5 dX5_findBestColumn_118 rfl ?_
            refine hV.istore_n (ls2 := [(2, .int most), (1, .int best), (6, .int ms), (5, .int al), (4, .int sm), (3, .int (nI c)), (0, .ref b)]) dX5_findBestColumn_119 (by decide) rfl ?_
            refine hV.iinc 5 (v := nI (c + 1)) (ls2 := [(3, .int (nI (c + 1))), (2, .int most), (1, .int best), (6, .int ms), (5, .int al), (4, .int sm), (0, .ref b)]) dX5_findBestColumn_120 rfl (nI_1 _) (by decide) rfl ?_
            refine hV.goto (tgt := 6) dX5_findBestColumn_123 (by decide) ?_
            refine hV.pick [0, 1, 2, 6] (ls2 := [(3, .int (nI (c + 1))), (2, .int most), (1, .int best), (0, .ref b)]) rfl ?_
            exact ih (c + 1) _ _ _ _ (by omega) (by simp only [bcN]; rw [← hb, ← hms]; simp only [if_pos c98_1])
          · refine hV.icmp_le_f (tgt := 105) dX5_findBestColumn_98 (by decide) c98_1 ?_
            refine hV.iload_n 3 dX5_findBestColumn_101 rfl ?_
            refine hV.goto (tgt := 106) dX5_findBestColumn_102 (by decide) ?_
            refine hV.istore_n (ls2 := [(1, .int (nI c)), (6, .int ms), (5, .int al), (4, .int sm), (3, .int (nI c)), (2, .int most), (0, .ref b)]) dX5_findBestColumn_106 (by decide) rfl ?_
            refine hV.iload 1 dX5_findBestColumn_107 rfl ?_
            refine hV.iload_n 5 dX5_findBestColumn_109 rfl ?_
            refine hV.icmp_le_f (tgt := 118) dX5_findBestColumn_110 (by decide) c98_1 ?_
            refine hV.iload 1 dX5_findBestColumn_113 rfl ?_
            refine hV.goto (tgt := 119) dX5_findBestColumn_115 (by decide) ?_
            refine hV.istore_n (ls2 := [(2, .int ms), (1, .int (nI c)), (6, .int ms), (5, .int al), (4, .int sm), (3, .int (nI c)), (0, .ref b)]) dX5_findBestColumn_119 (by decide) rfl ?_
            refine hV.iinc 5 (v := nI (c + 1)) (ls2 := [(3, .int (nI (c + 1))), (2, .int ms), (1, .int (nI c)), (6, .int ms), (5, .int al), (4, .int sm), (0, .ref b)]) dX5_findBestColumn_120 rfl (nI_1 _) (by decide) rfl ?_
            refine hV.goto (tgt := 6) dX5_findBestColumn_123 (by decide) ?_
            refine hV.pick [0, 1, 2, 6] (ls2 := [(3, .int (nI (c + 1))), (2, .int ms), (1, .int (nI c)), (0, .ref b)]) rfl ?_
            exact ih (c + 1) _ _ _ _ (by omega) (by simp only [bcN]; rw [← hb, ← hms]; simp only [if_neg c98_1])
        | succ k2 ih =>
          intro pk sm al hpk hs ha
          refine hV.iload 0 dX5_findBestColumn_26 rfl ?_
          refine hV.bipush (v := 7) dX5_findBestColumn_28 (by decide) ?_
          refine hV.icmp_ge_f (tgt := 84) dX5_findBestColumn_30 (by decide) (fun q => absurd ((nI_leI (a := 7) (b := pk) (by omega) (by omega)).mp q) (by omega)) ?_
          refine hV.iload 2 dX5_findBestColumn_33 rfl ?_
          refine hV.aload_n 6 dX5_findBestColumn_35 rfl ?_
          refine hV.iload 0 dX5_findBestColumn_36 rfl ?_
          refine hV.callV1 (rest := [.int sm]) dX5_findBestColumn_38 (c_X5_isOpen G (p := pk) (by omega)) my_X5_isOpen kv_X5_88 M_o rfl rfl rfl (Nat.le_of_ble_eq_true rfl) (Nat.le_of_ble_eq_true rfl) (Nat.le_of_ble_eq_true rfl) (Nat.le_of_ble_eq_true rfl) (Nat.le_of_ble_eq_true rfl) (st2 := [.int (isOpenZ (μ 0) pk), .int sm]) (k2 := 0) (g2 := 0) rfl rfl rfl ?_
          by_cases c41_2 : (isOpenZ (μ 0) pk) = 0
          · refine hV.if_eq_t (tgt := 62) dX5_findBestColumn_41 (by decide) c41_2 ?_
            refine hV.iconst (v := 0) dX5_findBestColumn_62 (by decide) ?_
            refine hV.iadd dX5_findBestColumn_63 ?_
            refine hV.istore (ls2 := [(4, .int (sm + 0)), (6, .int (nI pk)), (5, .int al), (3, .int (nI c)), (2, .int most), (1, .int best), (0, .ref b)]) dX5_findBestColumn_64 (by decide) rfl ?_
            refine hV.iload 2 dX5_findBestColumn_66 rfl ?_
            refine hV.aload_n 6 dX5_findBestColumn_68 rfl ?_
            refine hV.getf (v := .ref (b + 6)) dX5_findBestColumn_69 fl_X5_25 M_o rfl ?_
            refine hV.iload 1 dX5_findBestColumn_72 rfl ?_
            refine hV.iald (j := pk) dX5_findBestColumn_74 M_a5 (zix_nI (by omega)) (by omega) ?_
            refine zTop (v := x2 pk) rfl ?_
            refine hV.iadd dX5_findBestColumn_75 ?_
            refine hV.istore (ls2 := [(5, .int (al + (x2 pk))), (4, .int (sm + 0)), (6, .int (nI pk)), (3, .int (nI c)), (2, .int most), (1, .int best), (0, .ref b)]) dX5_findBestColumn_76 (by decide) rfl ?_
            refine hV.iinc 2 (v := nI (pk + 1)) (ls2 := [(6, .int (nI (pk + 1))), (5, .int (al + (x2 pk))), (4, .int (sm + 0)), (3, .int (nI c)), (2, .int most), (1, .int best), (0, .ref b)]) dX5_findBestColumn_78 rfl (nI_1 _) (by decide) rfl ?_
            refine hV.goto (tgt := 26) dX5_findBestColumn_81 (by decide) ?_
            exact ih (pk + 1) _ _ (by omega) (by rw [hs]; simp only [smN]; rw [if_pos c41_2]) (by rw [ha]; rfl)
          · refine hV.if_eq_f (tgt := 62) dX5_findBestColumn_41 (by decide) c41_2 ?_
            refine hV.aload_n 6 dX5_findBestColumn_44 rfl ?_
            refine hV.getf (v := .ref (b + 6)) dX5_findBestColumn_45 fl_X5_25 M_o rfl ?_
            refine hV.iload 0 dX5_findBestColumn_48 rfl ?_
            refine hV.iald (j := pk) dX5_findBestColumn_50 M_a5 (zix_nI (by omega)) (by omega) ?_
            refine zTop (v := x2 pk) rfl ?_
            refine hV.aload_n 6 dX5_findBestColumn_51 rfl ?_
            refine hV.iload 0 dX5_findBestColumn_52 rfl ?_
            refine hV.iconst (v := 1) dX5_findBestColumn_54 (by decide) ?_
            refine hV.callV1 (rest := [.int (x2 pk), .int sm]) dX5_findBestColumn_55 (c_X5_of G (p := pk) (w := 1) (by omega) (by omega)) my_X5_of kv_X5_68 M_o rfl rfl rfl (Nat.le_of_ble_eq_true rfl) (Nat.le_of_ble_eq_true rfl) (Nat.le_of_ble_eq_true rfl) (Nat.le_of_ble_eq_true rfl) (Nat.le_of_ble_eq_true rfl) (st2 := [.int ((μ 0) (132 + 5 * pk + 1)), .int (x2 pk), .int sm]) (k2 := 0) (g2 := 0) rfl rfl rfl ?_
            refine hV.imul dX5_findBestColumn_58 ?_
            refine hV.goto (tgt := 63) dX5_findBestColumn_59 (by decide) ?_
            refine hV.iadd dX5_findBestColumn_63 ?_
            refine hV.istore (ls2 := [(4, .int (sm + ((x2 pk) * ((μ 0) (132 + 5 * pk + 1))))), (6, .int (nI pk)), (5, .int al), (3, .int (nI c)), (2, .int most), (1, .int best), (0, .ref b)]) dX5_findBestColumn_64 (by decide) rfl ?_
            refine hV.iload 2 dX5_findBestColumn_66 rfl ?_
            refine hV.aload_n 6 dX5_findBestColumn_68 rfl ?_
            refine hV.getf (v := .ref (b + 6)) dX5_findBestColumn_69 fl_X5_25 M_o rfl ?_
            refine hV.iload 1 dX5_findBestColumn_72 rfl ?_
            refine hV.iald (j := pk) dX5_findBestColumn_74 M_a5 (zix_nI (by omega)) (by omega) ?_
            refine zTop (v := x2 pk) rfl ?_
            refine hV.iadd dX5_findBestColumn_75 ?_
            refine hV.istore (ls2 := [(5, .int (al + (x2 pk))), (4, .int (sm + ((x2 pk) * ((μ 0) (132 + 5 * pk + 1))))), (6, .int (nI pk)), (3, .int (nI c)), (2, .int most), (1, .int best), (0, .ref b)]) dX5_findBestColumn_76 (by decide) rfl ?_
            refine hV.iinc 2 (v := nI (pk + 1)) (ls2 := [(6, .int (nI (pk + 1))), (5, .int (al + (x2 pk))), (4, .int (sm + ((x2 pk) * ((μ 0) (132 + 5 * pk + 1))))), (3, .int (nI c)), (2, .int most), (1, .int best), (0, .ref b)]) dX5_findBestColumn_78 rfl (nI_1 _) (by decide) rfl ?_
            refine hV.goto (tgt := 26) dX5_findBestColumn_81 (by decide) ?_
            exact ih (pk + 1) _ _ (by omega) (by rw [hs]; simp only [smN]; rw [if_neg c41_2]) (by rw [ha]; rfl)
      exact loop2 (7) 0 _ _ (by omega) rfl rfl
  exact loop (7) 0 _ _ _ _ (by omega) rfl

/-! The text, read by the reference: where a part ends, or where it is wrong -/
def aT (f : Nat → Int32) (L p : Nat) : Int32 := if L ≤ p then 0 else f p
def rnC (f : Nat → Int32) (L : Nat) (s : Int32) (p : Nat) : Int32 := inV (aT f L p) (if s = 0 then 49 else 48) 57
def rnN (f : Nat → Int32) (L : Nat) (most : Int32) : Nat → Int32 × Nat → Int32 × Nat
  | 0, q => q
  | k + 1, q => if rnC f L q.1 q.2 = 0 then q else if most < 10 * q.1 + aT f L q.2 - 48 then q else rnN f L most k (10 * q.1 + aT f L q.2 - 48, q.2 + 1)
def rnQ (f : Nat → Int32) (L : Nat) (most : Int32) (a : Nat) : Int32 × Nat := rnN f L most (L - a) (0, a)
/-- an end, or the place of an error -/
def rpE (q : Bool × Nat) : Int32 := if q.1 = true then nI q.2 else -1 - nI q.2
def rnE (q : Int32 × Nat) : Bool × Nat := if q.1 = 0 then (false, q.2) else (true, q.2)
def rpS (f : Nat → Int32) (L a : Nat) : Bool × Nat := if aT f L a = 36 then rnE (rnQ f L 99 (a + 1)) else if aT f L a = 108 then (if inV (aT f L (a + 1) - 48) 0 6 = 0 then (false, a + 1) else if aT f L (a + 2) = 120 then rnE (rnQ f L 30 (a + 3)) else (false, a + 2))
  else if aT f L a = 98 then (if inV (aT f L (a + 1) - 48) 0 7 = 0 then (false, a + 1) else if inV (aT f L (a + 2) - 48) 0 6 = 0 then (false, a + 2) else if aT f L (a + 3) = 60 then (true, a + 4) else if aT f L (a + 3) = 124 then (true, a + 4) else if aT f L (a + 3) = 62 then (true, a + 4) else (false, a + 3)) else (false, a)
def rpP (f : Nat → Int32) (L a : Nat) (φ : Nat → Int32) : Nat → Int32 := if aT f L a = 36 then va_up (va_up φ 4 (aT f L a)) 6 (rnQ f L 99 (a + 1)).1 else if aT f L a = 108 then (if inV (aT f L (a + 1) - 48) 0 6 = 0 then va_up (va_up φ 4 (aT f L a)) 5 (aT f L (a + 1) - 48) else if aT f L (a + 2) = 120 then va_up (va_up (va_up φ 4 (aT f L a)) 5 (aT f L (a + 1) - 48)) 6 (rnQ f L 30 (a + 3)).1 else va_up (va_up φ 4 (aT f L a)) 5 (aT f L (a + 1) - 48))
  else if aT f L a = 98 then (if inV (aT f L (a + 1) - 48) 0 7 = 0 then va_up (va_up φ 4 (aT f L a)) 5 (aT f L (a + 1) - 48) else if inV (aT f L (a + 2) - 48) 0 6 = 0 then va_up (va_up (va_up φ 4 (aT f L a)) 5 (aT f L (a + 1) - 48)) 6 (aT f L (a + 2) - 48) else va_up (va_up (va_up (va_up φ 4 (aT f L a)) 5 (aT f L (a + 1) - 48)) 6 (aT f L (a + 2) - 48)) 7 (aT f L (a + 3))) else va_up (va_up φ 4 (aT f L a)) 5 (aT f L (a + 1) - 48)
theorem aT_ge {f : Nat → Int32} {L p : Nat} (h : L ≤ p) : aT f L p = 0 := if_pos h
theorem aT_lt {f : Nat → Int32} {L p : Nat} (h : ¬ aT f L p = 0) : p < L := by
  by_cases hp : L ≤ p
  · exact absurd (aT_ge hp) h
  · omega
theorem rpE_t (p : Nat) : rpE (true, p) = nI p := if_pos rfl
theorem rpE_f (p : Nat) : rpE (false, p) = -1 - nI p := by unfold rpE; simp
theorem rpE_n (p m : Nat) (c : Int32) (hc : c = -1 - nI m) : c - nI p = -1 - nI (p + m) := by
  rw [hc, ← nI_add]
  simp only [Int32.sub_eq_add_neg, Int32.neg_add]
  rw [Int32.add_assoc, Int32.add_comm (-nI m) (-nI p)]

set_option maxRecDepth 100000 in
set_option maxHeartbeats 4000000 in
theorem c_X5_at {l : Launch} {D : va_G} {base : Nat} (G : l.stackTraces = false) {h : zH} {n : Nat} {b : Nat} {μ : zB} {φ : Nat → Int32} {L : Nat} (hL : φ 3 = nI L) (hL2 : L ≤ 60) {p : Nat} (hp : p < 2 ^ 31) :
    zCt l D base 1 yX5_at w_X5_at [.ref b, .int (nI p)] (setM h b φ μ) n 0 0 (zR (some (.int (aT (μ 4) L p))) (setM h b φ μ) n) := by
  refine zCt.of G (by decide) (Nat.le_of_ble_eq_true rfl) (fun Sx V X hV hE hX => ?_)
  show V 0 [(0, .ref b), (1, .int (nI p))] [] (setM h b φ μ) n 0 0
  refine hV.iload_n 1 dX5_at_0 rfl ?_
  refine hV.aload_n 0 dX5_at_1 rfl ?_
  refine hV.getf (v := .int (φ 3)) dX5_at_2 fl_X5_109 M_o rfl ?_
  refine zTop (v := nI L) hL ?_
  by_cases c5_1 : L ≤ p
  · refine hV.icmp_ge_t (tgt := 17) dX5_at_5 (by decide) ((nI_leI (a := L) (b := p) (by omega) (by omega)).mpr c5_1) ?_
    refine hV.iconst (v := 0) dX5_at_17 (by decide) ?_
    exact hE.1 dX5_at_18 rfl rfl (by decide) (by decide) (zRi (by simp [aT, c5_1]) rfl rfl)
  · refine hV.icmp_ge_f (tgt := 17) dX5_at_5 (by decide) (fun q => absurd ((nI_leI (a := L) (b := p) (by omega) (by omega)).mp q) c5_1) ?_
    refine hV.aload_n 0 dX5_at_8 rfl ?_
    refine hV.getf (v := .ref (b + 5)) dX5_at_9 fl_X5_22 M_o rfl ?_
    refine hV.iload_n 1 dX5_at_12 rfl ?_
    refine hV.iald (j := p) dX5_at_13 M_a4 (zix_nI (by omega)) (by omega) ?_
    refine hV.goto (tgt := 18) dX5_at_14 (by decide) ?_
    exact hE.1 dX5_at_18 rfl rfl (by decide) (by decide) (zRi (by simp [aT, c5_1]) rfl rfl)

set_option maxRecDepth 100000 in
set_option maxHeartbeats 4000000 in
theorem c_X5_readNumber {l : Launch} {D : va_G} {base : Nat} (G : l.stackTraces = false) {h : zH} {n : Nat} {b : Nat} {μ : zB} {φ : Nat → Int32} {L : Nat} (hL : φ 3 = nI L) (hL2 : L ≤ 60) {a : Nat} {most : Int32} (ha : a ≤ L) :
    zCt l D base 2 yX5_readNumber w_X5_readNumber [.ref b, .int (nI a), .int most] (setM h b φ μ) n 0 0 (zR (some (.int (rpE (rnE (rnQ (μ 4) L most a))))) (setM h b (va_up φ 6 ((rnQ (μ 4) L most a).1)) μ) n) := by
  refine zCt.of G (by decide) (Nat.le_of_ble_eq_true rfl) (fun Sx V X hV hE hX => ?_)
  show V 0 [(0, .ref b), (1, .int (nI a)), (2, .int most)] [] (setM h b φ μ) n 0 0
  refine hV.iload_n 1 dX5_readNumber_0 rfl ?_
  refine hV.istore_n (ls2 := [(3, .int (nI a)), (0, .ref b), (1, .int (nI a)), (2, .int most)]) dX5_readNumber_1 (by decide) rfl ?_
  refine hV.aload_n 1 dX5_readNumber_2 rfl ?_
  refine hV.iconst (v := 0) dX5_readNumber_3 (by decide) ?_
  refine hV.putf dX5_readNumber_4 fp_X5_112 M_o (Nat.le_of_ble_eq_true rfl) rfl rfl M_f6 ?_
  have loop : ∀ (k p : Nat) (s : Int32), p + k = L → (rnN (μ 4) L most k (s, p) = rnQ (μ 4) L most a) → V 7 [(3, .int (nI p)), (0, .ref b), (1, .int (nI a)), (2, .int most)] [] (setM h b (va_up φ 6 s) μ) n 0 0 := by
    intro k
    induction k with
    | zero =>
      intro p s hp he
      refine hV.aload_n 1 dX5_readNumber_7 rfl ?_
      refine hV.iload_n 0 dX5_readNumber_8 rfl ?_
      refine hV.callV1 (rest := []) dX5_readNumber_9 (c_X5_at G (p := p) (by exact hL) hL2 (by omega)) my_X5_at kv_X5_115 M_o rfl rfl rfl (Nat.le_of_ble_eq_true rfl) (Nat.le_of_ble_eq_true rfl) (Nat.le_of_ble_eq_true rfl) (Nat.le_of_ble_eq_true rfl) (Nat.le_of_ble_eq_true rfl) (st2 := [.int (aT (μ 4) L p)]) (k2 := 0) (g2 := 0) rfl rfl rfl ?_
      refine hV.aload_n 1 dX5_readNumber_12 rfl ?_
      refine hV.getf (v := .int s) dX5_readNumber_13 fl_X5_112 M_o rfl ?_
      by_cases c16_1 : s = 0
      · refine hV.if_ne_f (tgt := 24) dX5_readNumber_16 (by decide) c16_1 ?_
        refine hV.bipush (v := 49) dX5_readNumber_19 (by decide) ?_
        refine hV.goto (tgt := 26) dX5_readNumber_21 (by decide) ?_
        refine hV.bipush (v := 57) dX5_readNumber_26 (by decide) ?_
        refine hV.callS1 (rest := []) dX5_readNumber_28 (c_X5_in G) my_X5_in ks_X5_39 rfl rfl (Nat.le_of_ble_eq_true rfl) (Nat.le_of_ble_eq_true rfl) (Nat.le_of_ble_eq_true rfl) (Nat.le_of_ble_eq_true rfl) (Nat.le_of_ble_eq_true rfl) (st2 := [.int (inV (aT (μ 4) L p) 49 57)]) (k2 := 0) (g2 := 0) rfl rfl rfl ?_
        refine hV.if_eq_t (tgt := 80) dX5_readNumber_31 (by decide) (by rw [aT_ge (by omega)]; decide) ?_
        refine hV.aload_n 1 dX5_readNumber_80 rfl ?_
        refine hV.getf (v := .int s) dX5_readNumber_81 fl_X5_112 M_o rfl ?_
        refine hV.if_ne_f (tgt := 93) dX5_readNumber_84 (by decide) c16_1 ?_
        refine hV.iconst (v := (-1)) dX5_readNumber_87 (by decide) ?_
        refine hV.iload_n 0 dX5_readNumber_88 rfl ?_
        refine hV.isub dX5_readNumber_89 ?_
        refine hV.goto (tgt := 94) dX5_readNumber_90 (by decide) ?_
        exact hE.1 dX5_readNumber_94 rfl rfl (by decide) (by decide) (zRi (by have e9 : rnQ (μ 4) L most a = (s, p) := (he.symm.trans rfl); rw [e9]; simp only [rnE, if_pos c16_1, rpE_f]) (by have e9 : rnQ (μ 4) L most a = (s, p) := (he.symm.trans rfl); rw [e9]) rfl)
      · refine hV.if_ne_t (tgt := 24) dX5_readNumber_16 (by decide) c16_1 ?_
        refine hV.bipush (v := 48) dX5_readNumber_24 (by decide) ?_
        refine hV.bipush (v := 57) dX5_readNumber_26 (by decide) ?_
        refine hV.callS1 (rest := []) dX5_readNumber_28 (c_X5_in G) my_X5_in ks_X5_39 rfl rfl (Nat.le_of_ble_eq_true rfl) (Nat.le_of_ble_eq_true rfl) (Nat.le_of_ble_eq_true rfl) (Nat.le_of_ble_eq_true rfl) (Nat.le_of_ble_eq_true rfl) (st2 := [.int (inV (aT (μ 4) L p) 48 57)]) (k2 := 0) (g2 := 0) rfl rfl rfl ?_
        refine hV.if_eq_t (tgt := 80) dX5_readNumber_31 (by decide) (by rw [aT_ge (by omega)]; decide) ?_
        refine hV.aload_n 1 dX5_readNumber_80 rfl ?_
        refine hV.getf (v := .int s) dX5_readNumber_81 fl_X5_112 M_o rfl ?_
        refine hV.if_ne_t (tgt := 93) dX5_readNumber_84 (by decide) c16_1 ?_
        refine hV.iload_n 0 dX5_readNumber_93 rfl ?_
        exact hE.1 dX5_readNumber_94 rfl rfl (by decide) (by decide) (zRi (by have e9 : rnQ (μ 4) L most a = (s, p) := (he.symm.trans rfl); rw [e9]; simp only [rnE, if_neg c16_1, rpE_t]) (by have e9 : rnQ (μ 4) L most a = (s, p) := (he.symm.trans rfl); rw [e9]) rfl)
    | succ k ih =>
      intro p s hp he
      refine hV.aload_n 1 dX5_readNumber_7 rfl ?_
      refine hV.iload_n 0 dX5_readNumber_8 rfl ?_
      refine hV.callV1 (rest := []) dX5_readNumber_9 (c_X5_at G (p := p) (by exact hL) hL2 (by omega)) my_X5_at kv_X5_115 M_o rfl rfl rfl (Nat.le_of_ble_eq_true rfl) (Nat.le_of_ble_eq_true rfl) (Nat.le_of_ble_eq_true rfl) (Nat.le_of_ble_eq_true rfl) (Nat.le_of_ble_eq_true rfl) (st2 := [.int (aT (μ 4) L p)]) (k2 := 0) (g2 := 0) rfl rfl rfl ?_
      refine hV.aload_n 1 dX5_readNumber_12 rfl ?_
      refine hV.getf (v := .int s) dX5_readNumber_13 fl_X5_112 M_o rfl ?_
      by_cases c16_2 : s = 0
      · refine hV.if_ne_f (tgt := 24) dX5_readNumber_16 (by decide) c16_2 ?_
        refine hV.bipush (v := 49) dX5_readNumber_19 (by decide) ?_
        refine hV.goto (tgt := 26) dX5_readNumber_21 (by decide) ?_
        refine hV.bipush (v := 57) dX5_readNumber_26 (by decide) ?_
        refine hV.callS1 (rest := []) dX5_readNumber_28 (c_X5_in G) my_X5_in ks_X5_39 rfl rfl (Nat.le_of_ble_eq_true rfl) (Nat.le_of_ble_eq_true rfl) (Nat.le_of_ble_eq_true rfl) (Nat.le_of_ble_eq_true rfl) (Nat.le_of_ble_eq_true rfl) (st2 := [.int (inV (aT (μ 4) L p) 49 57)]) (k2 := 0) (g2 := 0) rfl rfl rfl ?_
        by_cases c31_3 : (inV (aT (μ 4) L p) 49 57) = 0
        · refine hV.if_eq_t (tgt := 80) dX5_readNumber_31 (by decide) c31_3 ?_
          refine hV.aload_n 1 dX5_readNumber_80 rfl ?_
          refine hV.getf (v := .int s) dX5_readNumber_81 fl_X5_112 M_o rfl ?_
          refine hV.if_ne_f (tgt := 93) dX5_readNumber_84 (by decide) c16_2 ?_
          refine hV.iconst (v := (-1)) dX5_readNumber_87 (by decide) ?_
          refine hV.iload_n 0 dX5_readNumber_88 rfl ?_
          refine hV.isub dX5_readNumber_89 ?_
          refine hV.goto (tgt := 94) dX5_readNumber_90 (by decide) ?_
          exact hE.1 dX5_readNumber_94 rfl rfl (by decide) (by decide) (zRi (by have e9 : rnQ (μ 4) L most a = (s, p) := (he.symm.trans (by simp only [rnN]; rw [if_pos (by unfold rnC; rw [if_pos c16_2]; exact c31_3)])); rw [e9]; simp only [rnE, if_pos c16_2, rpE_f]) (by have e9 : rnQ (μ 4) L most a = (s, p) := (he.symm.trans (by simp only [rnN]; rw [if_pos (by unfold rnC; rw [if_pos c16_2]; exact c31_3)])); rw [e9]) rfl)
        · refine hV.if_eq_f (tgt := 80) dX5_readNumber_31 (by decide) c31_3 ?_
          refine hV.bipush (v := 10) dX5_readNumber_34 (by decide) ?_
          refine hV.aload_n 1 dX5_readNumber_36 rfl ?_
          refine hV.getf (v := .int s) dX5_readNumber_37 fl_X5_112 M_o rfl ?_
          refine hV.imul dX5_readNumber_40 ?_
          refine hV.aload_n 1 dX5_readNumber_41 rfl ?_
          refine hV.iload_n 0 dX5_readNumber_42 rfl ?_
          refine hV.callV1 (rest := [.int (10 * s)]) dX5_readNumber_43 (c_X5_at G (p := p) (by exact hL) hL2 (by omega)) my_X5_at kv_X5_115 M_o rfl rfl rfl (Nat.le_of_ble_eq_true rfl) (Nat.le_of_ble_eq_true rfl) (Nat.le_of_ble_eq_true rfl) (Nat.le_of_ble_eq_true rfl) (Nat.le_of_ble_eq_true rfl) (st2 := [.int (aT (μ 4) L p), .int (10 * s)]) (k2 := 0) (g2 := 0) rfl rfl rfl ?_
          refine hV.iadd dX5_readNumber_46 ?_
          refine hV.bipush (v := 48) dX5_readNumber_47 (by decide) ?_
          refine hV.isub dX5_readNumber_49 ?_
          refine hV.iload_n 3 dX5_readNumber_50 rfl ?_
          by_cases c51_4 : most < (((10 * s) + (aT (μ 4) L p)) - 48)
          · refine hV.icmp_gt_t (tgt := 80) dX5_readNumber_51 (by decide) c51_4 ?_
            refine hV.aload_n 1 dX5_readNumber_80 rfl ?_
            refine hV.getf (v := .int s) dX5_readNumber_81 fl_X5_112 M_o rfl ?_
            refine hV.if_ne_f (tgt := 93) dX5_readNumber_84 (by decide) c16_2 ?_
            refine hV.iconst (v := (-1)) dX5_readNumber_87 (by decide) ?_
            refine hV.iload_n 0 dX5_readNumber_88 rfl ?_
            refine hV.isub dX5_readNumber_89 ?_
            refine hV.goto (tgt := 94) dX5_readNumber_90 (by decide) ?_
            exact hE.1 dX5_readNumber_94 rfl rfl (by decide) (by decide) (zRi (by have e9 : rnQ (μ 4) L most a = (s, p) := (he.symm.trans (by simp only [rnN]; rw [if_neg (by unfold rnC; rw [if_pos c16_2]; exact c31_3), if_pos c51_4])); rw [e9]; simp only [rnE, if_pos c16_2, rpE_f]) (by have e9 : rnQ (μ 4) L most a = (s, p) := (he.symm.trans (by simp only [rnN]; rw [if_neg (by unfold rnC; rw [if_pos c16_2]; exact c31_3), if_pos c51_4])); rw [e9]) rfl)
          · refine hV.icmp_gt_f (tgt := 80) dX5_readNumber_51 (by decide) c51_4 ?_
            refine hV.aload_n 1 dX5_readNumber_54 rfl ?_
            refine hV.bipush (v := 10) dX5_readNumber_55 (by decide) ?_
            refine hV.aload_n 1 dX5_readNumber_57 rfl ?_
            refine hV.getf (v := .int s) dX5_readNumber_58 fl_X5_112 M_o rfl ?_
            refine hV.imul dX5_readNumber_61 ?_
            refine hV.aload_n 1 dX5_readNumber_62 rfl ?_
            refine hV.iload_n 0 dX5_readNumber_63 rfl ?_
            refine hV.callV1 (rest := [.int (10 * s), .ref b]) dX5_readNumber_64 (c_X5_at G (p := p) (by exact hL) hL2 (by omega)) my_X5_at kv_X5_115 M_o rfl rfl rfl (Nat.le_of_ble_eq_true rfl) (Nat.le_of_ble_eq_true rfl) (Nat.le_of_ble_eq_true rfl) (Nat.le_of_ble_eq_true rfl) (Nat.le_of_ble_eq_true rfl) (st2 := [.int (aT (μ 4) L p), .int (10 * s), .ref b]) (k2 := 0) (g2 := 0) rfl rfl rfl ?_
            refine hV.iadd dX5_readNumber_67 ?_
            refine hV.bipush (v := 48) dX5_readNumber_68 (by decide) ?_
            refine hV.isub dX5_readNumber_70 ?_
            refine hV.putf dX5_readNumber_71 fp_X5_112 M_o (Nat.le_of_ble_eq_true rfl) rfl rfl M_f6 ?_
            refine hV.iinc 0 (v := nI (p + 1)) (ls2 := [(3, .int (nI (p + 1))), (0, .ref b), (1, .int (nI a)), (2, .int most)]) dX5_readNumber_74 rfl (nI_1 _) (by decide) rfl ?_
            refine hV.goto (tgt := 7) dX5_readNumber_77 (by decide) ?_
            exact ih (p + 1) _ (by omega) (by rw [← he]; simp only [rnN]; rw [if_neg (by unfold rnC; rw [if_pos c16_2]; exact c31_3), if_neg c51_4])
      · refine hV.if_ne_t (tgt := 24) dX5_readNumber_16 (by decide) c16_2 ?_
        refine hV.bipush (v := 48) dX5_readNumber_24 (by decide) ?_
        refine hV.bipush (v := 57) dX5_readNumber_26 (by decide) ?_
        refine hV.callS1 (rest := []) dX5_readNumber_28 (c_X5_in G) my_X5_in ks_X5_39 rfl rfl (Nat.le_of_ble_eq_true rfl) (Nat.le_of_ble_eq_true rfl) (Nat.le_of_ble_eq_true rfl) (Nat.le_of_ble_eq_true rfl) (Nat.le_of_ble_eq_true rfl) (st2 := [.int (inV (aT (μ 4) L p) 48 57)]) (k2 := 0) (g2 := 0) rfl rfl rfl ?_
        by_cases c31_5 : (inV (aT (μ 4) L p) 48 57) = 0
        · refine hV.if_eq_t (tgt := 80) dX5_readNumber_31 (by decide) c31_5 ?_
          refine hV.aload_n 1 dX5_readNumber_80 rfl ?_
          refine hV.getf (v := .int s) dX5_readNumber_81 fl_X5_112 M_o rfl ?_
          refine hV.if_ne_t (tgt := 93) dX5_readNumber_84 (by decide) c16_2 ?_
          refine hV.iload_n 0 dX5_readNumber_93 rfl ?_
          exact hE.1 dX5_readNumber_94 rfl rfl (by decide) (by decide) (zRi (by have e9 : rnQ (μ 4) L most a = (s, p) := (he.symm.trans (by simp only [rnN]; rw [if_pos (by unfold rnC; rw [if_neg c16_2]; exact c31_5)])); rw [e9]; simp only [rnE, if_neg c16_2, rpE_t]) (by have e9 : rnQ (μ 4) L most a = (s, p) := (he.symm.trans (by simp only [rnN]; rw [if_pos (by unfold rnC; rw [if_neg c16_2]; exact c31_5)])); rw [e9]) rfl)
        · refine hV.if_eq_f (tgt := 80) dX5_readNumber_31 (by decide) c31_5 ?_
          refine hV.bipush (v := 10) dX5_readNumber_34 (by decide) ?_
          refine hV.aload_n 1 dX5_readNumber_36 rfl ?_
          refine hV.getf (v := .int s) dX5_readNumber_37 fl_X5_112 M_o rfl ?_
          refine hV.imul dX5_readNumber_40 ?_
          refine hV.aload_n 1 dX5_readNumber_41 rfl ?_
          refine hV.iload_n 0 dX5_readNumber_42 rfl ?_
          refine hV.callV1 (rest := [.int (10 * s)]) dX5_readNumber_43 (c_X5_at G (p := p) (by exact hL) hL2 (by omega)) my_X5_at kv_X5_115 M_o rfl rfl rfl (Nat.le_of_ble_eq_true rfl) (Nat.le_of_ble_eq_true rfl) (Nat.le_of_ble_eq_true rfl) (Nat.le_of_ble_eq_true rfl) (Nat.le_of_ble_eq_true rfl) (st2 := [.int (aT (μ 4) L p), .int (10 * s)]) (k2 := 0) (g2 := 0) rfl rfl rfl ?_
          refine hV.iadd dX5_readNumber_46 ?_
          refine hV.bipush (v := 48) dX5_readNumber_47 (by decide) ?_
          refine hV.isub dX5_readNumber_49 ?_
          refine hV.iload_n 3 dX5_readNumber_50 rfl ?_
          by_cases c51_6 : most < (((10 * s) + (aT (μ 4) L p)) - 48)
          · refine hV.icmp_gt_t (tgt := 80) dX5_readNumber_51 (by decide) c51_6 ?_
            refine hV.aload_n 1 dX5_readNumber_80 rfl ?_
            refine hV.getf (v := .int s) dX5_readNumber_81 fl_X5_112 M_o rfl ?_
            refine hV.if_ne_t (tgt := 93) dX5_readNumber_84 (by decide) c16_2 ?_
            refine hV.iload_n 0 dX5_readNumber_93 rfl ?_
            exact hE.1 dX5_readNumber_94 rfl rfl (by decide) (by decide) (zRi (by have e9 : rnQ (μ 4) L most a = (s, p) := (he.symm.trans (by simp only [rnN]; rw [if_neg (by unfold rnC; rw [if_neg c16_2]; exact c31_5), if_pos c51_6])); rw [e9]; simp only [rnE, if_neg c16_2, rpE_t]) (by have e9 : rnQ (μ 4) L most a = (s, p) := (he.symm.trans (by simp only [rnN]; rw [if_neg (by unfold rnC; rw [if_neg c16_2]; exact c31_5), if_pos c51_6])); rw [e9]) rfl)
          · refine hV.icmp_gt_f (tgt := 80) dX5_readNumber_51 (by decide) c51_6 ?_
            refine hV.aload_n 1 dX5_readNumber_54 rfl ?_
            refine hV.bipush (v := 10) dX5_readNumber_55 (by decide) ?_
            refine hV.aload_n 1 dX5_readNumber_57 rfl ?_
            refine hV.getf (v := .int s) dX5_readNumber_58 fl_X5_112 M_o rfl ?_
            refine hV.imul dX5_readNumber_61 ?_
            refine hV.aload_n 1 dX5_readNumber_62 rfl ?_
            refine hV.iload_n 0 dX5_readNumber_63 rfl ?_
            refine hV.callV1 (rest := [.int (10 * s), .ref b]) dX5_readNumber_64 (c_X5_at G (p := p) (by exact hL) hL2 (by omega)) my_X5_at kv_X5_115 M_o rfl rfl rfl (Nat.le_of_ble_eq_true rfl) (Nat.le_of_ble_eq_true rfl) (Nat.le_of_ble_eq_true rfl) (Nat.le_of_ble_eq_true rfl) (Nat.le_of_ble_eq_true rfl) (st2 := [.int (aT (μ 4) L p), .int (10 * s), .ref b]) (k2 := 0) (g2 := 0) rfl rfl rfl ?_
            refine hV.iadd dX5_readNumber_67 ?_
            refine hV.bipush (v := 48) dX5_readNumber_68 (by decide) ?_
            refine hV.isub dX5_readNumber_70 ?_
            refine hV.putf dX5_readNumber_71 fp_X5_112 M_o (Nat.le_of_ble_eq_true rfl) rfl rfl M_f6 ?_
            refine hV.iinc 0 (v := nI (p + 1)) (ls2 := [(3, .int (nI (p + 1))), (0, .ref b), (1, .int (nI a)), (2, .int most)]) dX5_readNumber_74 rfl (nI_1 _) (by decide) rfl ?_
            refine hV.goto (tgt := 7) dX5_readNumber_77 (by decide) ?_
            exact ih (p + 1) _ (by omega) (by rw [← he]; simp only [rnN]; rw [if_neg (by unfold rnC; rw [if_neg c16_2]; exact c31_5), if_neg c51_6])
  exact loop (L - a) a _ (by omega) rfl

set_option maxRecDepth 100000 in
set_option maxHeartbeats 4000000 in
theorem c_X5_readPart {l : Launch} {D : va_G} {base : Nat} (G : l.stackTraces = false) {h : zH} {n : Nat} {b : Nat} {μ : zB} {φ : Nat → Int32} {L : Nat} (hL : φ 3 = nI L) (hL2 : L ≤ 60) {a : Nat} (ha : a ≤ L) :
    zCt l D base 3 yX5_readPart w_X5_readPart [.ref b, .int (nI a)] (setM h b φ μ) n 0 0 (zR (some (.int (rpE (rpS (μ 4) L a)))) (setM h b (rpP (μ 4) L a φ) μ) n) := by
  refine zCt.of G (by decide) (Nat.le_of_ble_eq_true rfl) (fun Sx V X hV hE hX => ?_)
  show V 0 [(0, .ref b), (1, .int (nI a))] [] (setM h b φ μ) n 0 0
  refine hV.aload_n 0 dX5_readPart_0 rfl ?_
  refine hV.aload_n 0 dX5_readPart_1 rfl ?_
  refine hV.iload_n 1 dX5_readPart_2 rfl ?_
  refine hV.callV1 (rest := [.ref b]) dX5_readPart_3 (c_X5_at G (p := a) (by exact hL) hL2 (by omega)) my_X5_at kv_X5_115 M_o rfl rfl rfl (Nat.le_of_ble_eq_true rfl) (Nat.le_of_ble_eq_true rfl) (Nat.le_of_ble_eq_true rfl) (Nat.le_of_ble_eq_true rfl) (Nat.le_of_ble_eq_true rfl) (st2 := [.int (aT (μ 4) L a), .ref b]) (k2 := 0) (g2 := 0) rfl rfl rfl ?_
  refine hV.putf dX5_readPart_6 fp_X5_118 M_o (Nat.le_of_ble_eq_true rfl) rfl rfl M_f4 ?_
  refine hV.aload_n 0 dX5_readPart_9 rfl ?_
  refine hV.getf (v := .int (aT (μ 4) L a)) dX5_readPart_10 fl_X5_118 M_o rfl ?_
  refine hV.bipush (v := 36) dX5_readPart_13 (by decide) ?_
  by_cases c15_1 : (aT (μ 4) L a) = 36
  · refine hV.icmp_ne_f (tgt := 28) dX5_readPart_15 (by decide) c15_1 ?_
    refine hV.aload_n 0 dX5_readPart_18 rfl ?_
    refine hV.iload_n 1 dX5_readPart_19 rfl ?_
    refine hV.iconst (v := 1) dX5_readPart_20 (by decide) ?_
    refine hV.iaddN (a := a) (b := 1) dX5_readPart_21 ?_
    refine hV.bipush (v := 99) dX5_readPart_22 (by decide) ?_
    have hlt := aT_lt (f := μ 4) (L := L) (p := a) (by rw [c15_1]; decide)
    refine hV.callV1 (rest := []) dX5_readPart_24 (c_X5_readNumber G (a := a + 1) (most := 99) (by exact hL) hL2 (by omega)) my_X5_readNumber kv_X5_121 M_o rfl rfl rfl (Nat.le_of_ble_eq_true rfl) (Nat.le_of_ble_eq_true rfl) (Nat.le_of_ble_eq_true rfl) (Nat.le_of_ble_eq_true rfl) (Nat.le_of_ble_eq_true rfl) (st2 := [.int (rpE (rnE (rnQ (μ 4) L 99 (a + 1))))]) (k2 := 0) (g2 := 0) rfl rfl rfl ?_
    exact hE.1 dX5_readPart_27 rfl rfl (by decide) (by decide) (zRi (by unfold rpS; rw [if_pos c15_1]) (by unfold rpP; rw [if_pos c15_1]) rfl)
  · refine hV.icmp_ne_t (tgt := 28) dX5_readPart_15 (by decide) c15_1 ?_
    refine hV.aload_n 0 dX5_readPart_28 rfl ?_
    refine hV.aload_n 0 dX5_readPart_29 rfl ?_
    refine hV.iload_n 1 dX5_readPart_30 rfl ?_
    refine hV.iconst (v := 1) dX5_readPart_31 (by decide) ?_
    refine hV.iaddN (a := a) (b := 1) dX5_readPart_32 ?_
    refine hV.callV1 (rest := [.ref b]) dX5_readPart_33 (c_X5_at G (p := a + 1) (by exact hL) hL2 (by omega)) my_X5_at kv_X5_115 M_o rfl rfl rfl (Nat.le_of_ble_eq_true rfl) (Nat.le_of_ble_eq_true rfl) (Nat.le_of_ble_eq_true rfl) (Nat.le_of_ble_eq_true rfl) (Nat.le_of_ble_eq_true rfl) (st2 := [.int (aT (μ 4) L (a + 1)), .ref b]) (k2 := 0) (g2 := 0) rfl rfl rfl ?_
    refine hV.bipush (v := 48) dX5_readPart_36 (by decide) ?_
    refine hV.isub dX5_readPart_38 ?_
    refine hV.putf dX5_readPart_39 fp_X5_124 M_o (Nat.le_of_ble_eq_true rfl) rfl rfl M_f5 ?_
    refine hV.aload_n 0 dX5_readPart_42 rfl ?_
    refine hV.getf (v := .int (aT (μ 4) L a)) dX5_readPart_43 fl_X5_118 M_o rfl ?_
    refine hV.bipush (v := 108) dX5_readPart_46 (by decide) ?_
    by_cases c48_2 : (aT (μ 4) L a) = 108
    · refine hV.icmp_ne_f (tgt := 95) dX5_readPart_48 (by decide) c48_2 ?_
      refine hV.aload_n 0 dX5_readPart_51 rfl ?_
      refine hV.getf (v := .int ((aT (μ 4) L (a + 1)) - 48)) dX5_readPart_52 fl_X5_124 M_o rfl ?_
      refine hV.callS1 (rest := []) dX5_readPart_55 (c_X5_isColumn G) my_X5_isColumn ks_X5_61 rfl rfl (Nat.le_of_ble_eq_true rfl) (Nat.le_of_ble_eq_true rfl) (Nat.le_of_ble_eq_true rfl) (Nat.le_of_ble_eq_true rfl) (Nat.le_of_ble_eq_true rfl) (st2 := [.int (inV ((aT (μ 4) L (a + 1)) - 48) 0 6)]) (k2 := 0) (g2 := 0) rfl rfl rfl ?_
      by_cases c58_3 : (inV ((aT (μ 4) L (a + 1)) - 48) 0 6) = 0
      · refine hV.if_ne_f (tgt := 66) dX5_readPart_58 (by decide) c58_3 ?_
        refine hV.bipush (v := (-2)) dX5_readPart_61 (by decide) ?_
        refine hV.iload_n 1 dX5_readPart_63 rfl ?_
        refine hV.isub dX5_readPart_64 ?_
        exact hE.1 dX5_readPart_65 rfl rfl (by decide) (by decide) (zRi (by unfold rpS; rw [if_neg c15_1, if_pos c48_2, if_pos c58_3, rpE_f]; exact rpE_n a 1 (-2) (by decide)) (by unfold rpP; rw [if_neg c15_1, if_pos c48_2, if_pos c58_3]) rfl)
      · refine hV.if_ne_t (tgt := 66) dX5_readPart_58 (by decide) c58_3 ?_
        refine hV.aload_n 0 dX5_readPart_66 rfl ?_
        refine hV.iload_n 1 dX5_readPart_67 rfl ?_
        refine hV.iconst (v := 2) dX5_readPart_68 (by decide) ?_
        refine hV.iaddN (a := a) (b := 2) dX5_readPart_69 ?_
        refine hV.callV1 (rest := []) dX5_readPart_70 (c_X5_at G (p := a + 2) (by exact hL) hL2 (by omega)) my_X5_at kv_X5_115 M_o rfl rfl rfl (Nat.le_of_ble_eq_true rfl) (Nat.le_of_ble_eq_true rfl) (Nat.le_of_ble_eq_true rfl) (Nat.le_of_ble_eq_true rfl) (Nat.le_of_ble_eq_true rfl) (st2 := [.int (aT (μ 4) L (a + 2))]) (k2 := 0) (g2 := 0) rfl rfl rfl ?_
        refine hV.bipush (v := 120) dX5_readPart_73 (by decide) ?_
        by_cases c75_4 : (aT (μ 4) L (a + 2)) = 120
        · refine hV.icmp_ne_f (tgt := 90) dX5_readPart_75 (by decide) c75_4 ?_
          refine hV.aload_n 0 dX5_readPart_78 rfl ?_
          refine hV.iload_n 1 dX5_readPart_79 rfl ?_
          refine hV.iconst (v := 3) dX5_readPart_80 (by decide) ?_
          refine hV.iaddN (a := a) (b := 3) dX5_readPart_81 ?_
          refine hV.bipush (v := 30) dX5_readPart_82 (by decide) ?_
          have hlt := aT_lt (f := μ 4) (L := L) (p := a + 2) (by rw [c75_4]; decide)
          refine hV.callV1 (rest := []) dX5_readPart_84 (c_X5_readNumber G (a := a + 3) (most := 30) (by exact hL) hL2 (by omega)) my_X5_readNumber kv_X5_121 M_o rfl rfl rfl (Nat.le_of_ble_eq_true rfl) (Nat.le_of_ble_eq_true rfl) (Nat.le_of_ble_eq_true rfl) (Nat.le_of_ble_eq_true rfl) (Nat.le_of_ble_eq_true rfl) (st2 := [.int (rpE (rnE (rnQ (μ 4) L 30 (a + 3))))]) (k2 := 0) (g2 := 0) rfl rfl rfl ?_
          refine hV.goto (tgt := 94) dX5_readPart_87 (by decide) ?_
          exact hE.1 dX5_readPart_94 rfl rfl (by decide) (by decide) (zRi (by unfold rpS; rw [if_neg c15_1, if_pos c48_2, if_neg c58_3, if_pos c75_4]) (by unfold rpP; rw [if_neg c15_1, if_pos c48_2, if_neg c58_3, if_pos c75_4]) rfl)
        · refine hV.icmp_ne_t (tgt := 90) dX5_readPart_75 (by decide) c75_4 ?_
          refine hV.bipush (v := (-3)) dX5_readPart_90 (by decide) ?_
          refine hV.iload_n 1 dX5_readPart_92 rfl ?_
          refine hV.isub dX5_readPart_93 ?_
          exact hE.1 dX5_readPart_94 rfl rfl (by decide) (by decide) (zRi (by unfold rpS; rw [if_neg c15_1, if_pos c48_2, if_neg c58_3, if_neg c75_4, rpE_f]; exact rpE_n a 2 (-3) (by decide)) (by unfold rpP; rw [if_neg c15_1, if_pos c48_2, if_neg c58_3, if_neg c75_4]) rfl)
    · refine hV.icmp_ne_t (tgt := 95) dX5_readPart_48 (by decide) c48_2 ?_
      refine hV.aload_n 0 dX5_readPart_95 rfl ?_
      refine hV.getf (v := .int (aT (μ 4) L a)) dX5_readPart_96 fl_X5_118 M_o rfl ?_
      refine hV.bipush (v := 98) dX5_readPart_99 (by decide) ?_
      by_cases c101_5 : (aT (μ 4) L a) = 98
      · refine hV.icmp_eq_t (tgt := 108) dX5_readPart_101 (by decide) c101_5 ?_
        refine hV.aload_n 0 dX5_readPart_108 rfl ?_
        refine hV.getf (v := .int ((aT (μ 4) L (a + 1)) - 48)) dX5_readPart_109 fl_X5_124 M_o rfl ?_
        refine hV.callS1 (rest := []) dX5_readPart_112 (c_X5_isRow G) my_X5_isRow ks_X5_57 rfl rfl (Nat.le_of_ble_eq_true rfl) (Nat.le_of_ble_eq_true rfl) (Nat.le_of_ble_eq_true rfl) (Nat.le_of_ble_eq_true rfl) (Nat.le_of_ble_eq_true rfl) (st2 := [.int (inV ((aT (μ 4) L (a + 1)) - 48) 0 7)]) (k2 := 0) (g2 := 0) rfl rfl rfl ?_
        by_cases c115_6 : (inV ((aT (μ 4) L (a + 1)) - 48) 0 7) = 0
        · refine hV.if_ne_f (tgt := 123) dX5_readPart_115 (by decide) c115_6 ?_
          refine hV.bipush (v := (-2)) dX5_readPart_118 (by decide) ?_
          refine hV.iload_n 1 dX5_readPart_120 rfl ?_
          refine hV.isub dX5_readPart_121 ?_
          exact hE.1 dX5_readPart_122 rfl rfl (by decide) (by decide) (zRi (by unfold rpS; rw [if_neg c15_1, if_neg c48_2, if_pos c101_5, if_pos c115_6, rpE_f]; exact rpE_n a 1 (-2) (by decide)) (by unfold rpP; rw [if_neg c15_1, if_neg c48_2, if_pos c101_5, if_pos c115_6]) rfl)
        · refine hV.if_ne_t (tgt := 123) dX5_readPart_115 (by decide) c115_6 ?_
          refine hV.aload_n 0 dX5_readPart_123 rfl ?_
          refine hV.aload_n 0 dX5_readPart_124 rfl ?_
          refine hV.iload_n 1 dX5_readPart_125 rfl ?_
          refine hV.iconst (v := 2) dX5_readPart_126 (by decide) ?_
          refine hV.iaddN (a := a) (b := 2) dX5_readPart_127 ?_
          refine hV.callV1 (rest := [.ref b]) dX5_readPart_128 (c_X5_at G (p := a + 2) (by exact hL) hL2 (by omega)) my_X5_at kv_X5_115 M_o rfl rfl rfl (Nat.le_of_ble_eq_true rfl) (Nat.le_of_ble_eq_true rfl) (Nat.le_of_ble_eq_true rfl) (Nat.le_of_ble_eq_true rfl) (Nat.le_of_ble_eq_true rfl) (st2 := [.int (aT (μ 4) L (a + 2)), .ref b]) (k2 := 0) (g2 := 0) rfl rfl rfl ?_
          refine hV.bipush (v := 48) dX5_readPart_131 (by decide) ?_
          refine hV.isub dX5_readPart_133 ?_
          refine hV.putf dX5_readPart_134 fp_X5_112 M_o (Nat.le_of_ble_eq_true rfl) rfl rfl M_f6 ?_
          refine hV.aload_n 0 dX5_readPart_137 rfl ?_
          refine hV.getf (v := .int ((aT (μ 4) L (a + 2)) - 48)) dX5_readPart_138 fl_X5_112 M_o rfl ?_
          refine hV.callS1 (rest := []) dX5_readPart_141 (c_X5_isColumn G) my_X5_isColumn ks_X5_61 rfl rfl (Nat.le_of_ble_eq_true rfl) (Nat.le_of_ble_eq_true rfl) (Nat.le_of_ble_eq_true rfl) (Nat.le_of_ble_eq_true rfl) (Nat.le_of_ble_eq_true rfl) (st2 := [.int (inV ((aT (μ 4) L (a + 2)) - 48) 0 6)]) (k2 := 0) (g2 := 0) rfl rfl rfl ?_
          by_cases c144_7 : (inV ((aT (μ 4) L (a + 2)) - 48) 0 6) = 0
          · refine hV.if_ne_f (tgt := 152) dX5_readPart_144 (by decide) c144_7 ?_
            refine hV.bipush (v := (-3)) dX5_readPart_147 (by decide) ?_
            refine hV.iload_n 1 dX5_readPart_149 rfl ?_
            refine hV.isub dX5_readPart_150 ?_
            exact hE.1 dX5_readPart_151 rfl rfl (by decide) (by decide) (zRi (by unfold rpS; rw [if_neg c15_1, if_neg c48_2, if_pos c101_5, if_neg c115_6, if_pos c144_7, rpE_f]; exact rpE_n a 2 (-3) (by decide)) (by unfold rpP; rw [if_neg c15_1, if_neg c48_2, if_pos c101_5, if_neg c115_6, if_pos c144_7]) rfl)
          · refine hV.if_ne_t (tgt := 152) dX5_readPart_144 (by decide) c144_7 ?_
            refine hV.aload_n 0 dX5_readPart_152 rfl ?_
            refine hV.aload_n 0 dX5_readPart_153 rfl ?_
            refine hV.iload_n 1 dX5_readPart_154 rfl ?_
            refine hV.iconst (v := 3) dX5_readPart_155 (by decide) ?_
            refine hV.iaddN (a := a) (b := 3) dX5_readPart_156 ?_
            refine hV.callV1 (rest := [.ref b]) dX5_readPart_157 (c_X5_at G (p := a + 3) (by exact hL) hL2 (by omega)) my_X5_at kv_X5_115 M_o rfl rfl rfl (Nat.le_of_ble_eq_true rfl) (Nat.le_of_ble_eq_true rfl) (Nat.le_of_ble_eq_true rfl) (Nat.le_of_ble_eq_true rfl) (Nat.le_of_ble_eq_true rfl) (st2 := [.int (aT (μ 4) L (a + 3)), .ref b]) (k2 := 0) (g2 := 0) rfl rfl rfl ?_
            refine hV.putf dX5_readPart_160 fp_X5_127 M_o (Nat.le_of_ble_eq_true rfl) rfl rfl M_f7 ?_
            refine hV.aload_n 0 dX5_readPart_163 rfl ?_
            refine hV.getf (v := .int (aT (μ 4) L (a + 3))) dX5_readPart_164 fl_X5_127 M_o rfl ?_
            refine hV.bipush (v := 60) dX5_readPart_167 (by decide) ?_
            by_cases c169_8 : (aT (μ 4) L (a + 3)) = 60
            · refine hV.icmp_eq_t (tgt := 190) dX5_readPart_169 (by decide) c169_8 ?_
              refine hV.iload_n 1 dX5_readPart_190 rfl ?_
              refine hV.iconst (v := 4) dX5_readPart_191 (by decide) ?_
              refine hV.iaddN (a := a) (b := 4) dX5_readPart_192 ?_
              refine hV.goto (tgt := 200) dX5_readPart_193 (by decide) ?_
              exact hE.1 dX5_readPart_200 rfl rfl (by decide) (by decide) (zRi (by unfold rpS; rw [if_neg c15_1, if_neg c48_2, if_pos c101_5, if_neg c115_6, if_neg c144_7, if_pos c169_8, rpE_t]) (by unfold rpP; rw [if_neg c15_1, if_neg c48_2, if_pos c101_5, if_neg c115_6, if_neg c144_7]) rfl)
            · refine hV.icmp_eq_f (tgt := 190) dX5_readPart_169 (by decide) c169_8 ?_
              refine hV.aload_n 0 dX5_readPart_172 rfl ?_
              refine hV.getf (v := .int (aT (μ 4) L (a + 3))) dX5_readPart_173 fl_X5_127 M_o rfl ?_
              refine hV.bipush (v := 124) dX5_readPart_176 (by decide) ?_
              by_cases c178_9 : (aT (μ 4) L (a + 3)) = 124
              · refine hV.icmp_eq_t (tgt := 190) dX5_readPart_178 (by decide) c178_9 ?_
                refine hV.iload_n 1 dX5_readPart_190 rfl ?_
                refine hV.iconst (v := 4) dX5_readPart_191 (by decide) ?_
                refine hV.iaddN (a := a) (b := 4) dX5_readPart_192 ?_
                refine hV.goto (tgt := 200) dX5_readPart_193 (by decide) ?_
                exact hE.1 dX5_readPart_200 rfl rfl (by decide) (by decide) (zRi (by unfold rpS; rw [if_neg c15_1, if_neg c48_2, if_pos c101_5, if_neg c115_6, if_neg c144_7, if_neg c169_8, if_pos c178_9, rpE_t]) (by unfold rpP; rw [if_neg c15_1, if_neg c48_2, if_pos c101_5, if_neg c115_6, if_neg c144_7]) rfl)
              · refine hV.icmp_eq_f (tgt := 190) dX5_readPart_178 (by decide) c178_9 ?_
                refine hV.aload_n 0 dX5_readPart_181 rfl ?_
                refine hV.getf (v := .int (aT (μ 4) L (a + 3))) dX5_readPart_182 fl_X5_127 M_o rfl ?_
                refine hV.bipush (v := 62) dX5_readPart_185 (by decide) ?_
                by_cases c187_10 : (aT (μ 4) L (a + 3)) = 62
                · refine hV.icmp_ne_f (tgt := 196) dX5_readPart_187 (by decide) c187_10 ?_
                  refine hV.iload_n 1 dX5_readPart_190 rfl ?_
                  refine hV.iconst (v := 4) dX5_readPart_191 (by decide) ?_
                  refine hV.iaddN (a := a) (b := 4) dX5_readPart_192 ?_
                  refine hV.goto (tgt := 200) dX5_readPart_193 (by decide) ?_
                  exact hE.1 dX5_readPart_200 rfl rfl (by decide) (by decide) (zRi (by unfold rpS; rw [if_neg c15_1, if_neg c48_2, if_pos c101_5, if_neg c115_6, if_neg c144_7, if_neg c169_8, if_neg c178_9, if_pos c187_10, rpE_t]) (by unfold rpP; rw [if_neg c15_1, if_neg c48_2, if_pos c101_5, if_neg c115_6, if_neg c144_7]) rfl)
                · refine hV.icmp_ne_t (tgt := 196) dX5_readPart_187 (by decide) c187_10 ?_
                  refine hV.bipush (v := (-4)) dX5_readPart_196 (by decide) ?_
                  refine hV.iload_n 1 dX5_readPart_198 rfl ?_
                  refine hV.isub dX5_readPart_199 ?_
                  exact hE.1 dX5_readPart_200 rfl rfl (by decide) (by decide) (zRi (by unfold rpS; rw [if_neg c15_1, if_neg c48_2, if_pos c101_5, if_neg c115_6, if_neg c144_7, if_neg c169_8, if_neg c178_9, if_neg c187_10, rpE_f]; exact rpE_n a 3 (-4) (by decide)) (by unfold rpP; rw [if_neg c15_1, if_neg c48_2, if_pos c101_5, if_neg c115_6, if_neg c144_7]) rfl)
      · refine hV.icmp_eq_f (tgt := 108) dX5_readPart_101 (by decide) c101_5 ?_
        refine hV.iconst (v := (-1)) dX5_readPart_104 (by decide) ?_
        refine hV.iload_n 1 dX5_readPart_105 rfl ?_
        refine hV.isub dX5_readPart_106 ?_
        exact hE.1 dX5_readPart_107 rfl rfl (by decide) (by decide) (zRi (by unfold rpS; rw [if_neg c15_1, if_neg c48_2, if_neg c101_5, rpE_f]) (by unfold rpP; rw [if_neg c15_1, if_neg c48_2, if_neg c101_5]) rfl)
