/-! The reference: its digest -/
theorem sa_156 {μ : zB} {w x y w2 : Nat → Int32} : sa (sa (sa (sa μ 1 w) 5 x) 6 y) 1 w2 = sa (sa (sa μ 1 w2) 5 x) 6 y := by
  funext a; unfold sa
  by_cases h1 : a = 6
  · simp [h1]
  · by_cases h2 : a = 5
    · simp [h2]
    · by_cases h3 : a = 1
      · simp [h3]
      · simp [h1, h2, h3]
theorem sa_0156 (μ : zB) : sa (sa (sa μ 1 (μ 1)) 5 (μ 5)) 6 (μ 6) = μ := by rw [sa_self, sa_self]; exact sa_self μ 6
def hsN (f : Nat → Int32) : Nat → Int64 → Int64
  | 0, h => h
  | k + 1, h => 31 * hsN f k h + Int32.toInt64 (f k)
def hpN (f : Nat → Int32) : Nat → Int64 → Int64
  | 0, h => h
  | k + 1, h => 31 * hpN f k h + Int32.toInt64 (f k) + 1
def dgP (z : zZ) : Nat → Int64 → Int64
  | 0, h => h
  | p + 1, h => hsN (fun w => pkN z p w) 5 (dgP z p h)
def dgW (w : Nat → Int32) : Nat → Int64 → Int64
  | 0, h => h
  | p + 1, h => 31 * (31 * dgW w p h + Int32.toInt64 (w p)) + Int32.toInt64 (w p)
def dgC (z : zZ) : Nat → Int64 → Int64
  | 0, h => h
  | c + 1, h => 31 * hsN (fun w => ldV z c w) 4 (dgW (wv z c) 7 (dgC z c h)) + Int32.toInt64 (ltV z c)
/-- how many pins are bent -/
def bpC (z : zZ) : Nat → Nat
  | 0 => 0
  | i + 1 => bpC z i + (if z (20 + i) = 0 then 0 else 1)
def dgA (z : zZ) (k : Nat) : Int64 := hpN (fun i => z (20 + i)) 56 (hsN (fun i => cnN z k i) 18 3677)
def dgB (z : zZ) (k : Nat) : Int64 := hsN (fun i => z (167 + i)) 8 (hsN (fun i => baN z (nI i) 56) (bpC z 56) (dgA z k))
def dgD (z : zZ) (k : Nat) : Int64 := dgC z 7 (hsN (fun i => z (17 + i)) 3 (dgP z 7 (dgB z k)))
def dgV (z : zZ) (k : Nat) (f : Nat → Int32) (L : Nat) : Int64 := hsN f L (31 * (31 * (31 * dgD z k + Int32.toInt64 (bcN z 7).1) + UInt64.toInt64 (shV z)) + Int32.toInt64 (nI L))
theorem bpC_le (z : zZ) (i : Nat) : bpC z i ≤ i := by
  induction i with
  | zero => exact Nat.le_refl _
  | succ i ih => simp only [bpC]; split <;> omega
theorem bpN_C (z : zZ) (i : Nat) : bpN z i = nI (bpC z i) := by
  induction i with
  | zero => rfl
  | succ i ih =>
    simp only [bpC]
    show bpN z i + _ = _
    rw [ih]
    split
    · exact nI_add _ 0
    · exact nI_add _ 1

set_option maxRecDepth 100000 in
set_option maxHeartbeats 4000000 in
theorem c_Jxe99ae_isNaN_b9ae7 {l : Launch} {D : va_G} {base : Nat} (G : l.stackTraces = false) {h : zH} {n : Nat} {v : UInt64} (hq : Op.cmpValue (FP.dcmp v v) .l = 0) :
    zCt l D base 1 yJxe99ae_isNaN_b9ae7 w_Jxe99ae_isNaN_b9ae7 [.double v] (h) n 0 0 (zR (some (.int 0)) (h) n) := by
  refine zCt.of G (by decide) (Nat.le_of_ble_eq_true rfl) (fun Sx V X hV hE hX => ?_)
  show V 0 [(0, .double v)] [] (h) n 0 0
  refine hV.dload_n 0 dJxe99ae_isNaN_b9ae7_0 rfl ?_
  refine hV.dload_n 0 dJxe99ae_isNaN_b9ae7_1 rfl ?_
  refine hV.dcmp dJxe99ae_isNaN_b9ae7_2 ?_
  refine hV.if_eq_t (tgt := 10) dJxe99ae_isNaN_b9ae7_3 (by decide) hq ?_
  refine hV.iconst (v := 0) dJxe99ae_isNaN_b9ae7_10 (by decide) ?_
  exact hE.1 dJxe99ae_isNaN_b9ae7_11 rfl rfl (by decide) (by decide) (zRi rfl rfl rfl)

set_option maxRecDepth 100000 in
set_option maxHeartbeats 4000000 in
theorem c_Jxe99ae_doubleToLongBits_ccdee {l : Launch} {D : va_G} {base : Nat} (G : l.stackTraces = false) {h : zH} {n : Nat} {v : UInt64} (hq : Op.cmpValue (FP.dcmp v v) .l = 0) :
    zCt l D base 2 yJxe99ae_doubleToLongBits_ccdee w_Jxe99ae_doubleToLongBits_ccdee [.double v] (h) n 0 0 (zR (some (.long (UInt64.toInt64 v))) (h) n) := by
  refine zCt.of G (by decide) (Nat.le_of_ble_eq_true rfl) (fun Sx V X hV hE hX => ?_)
  show V 0 [(0, .double v)] [] (h) n 0 0
  refine hV.dload_n 0 dJxe99ae_doubleToLongBits_ccdee_0 rfl ?_
  refine hV.callS1 (rest := []) dJxe99ae_doubleToLongBits_ccdee_1 (c_Jxe99ae_isNaN_b9ae7 G hq) my_Jxe99ae_isNaN_b9ae7 ks_Jxe99ae_122 rfl rfl (Nat.le_of_ble_eq_true rfl) (Nat.le_of_ble_eq_true rfl) (Nat.le_of_ble_eq_true rfl) (Nat.le_of_ble_eq_true rfl) (Nat.le_of_ble_eq_true rfl) (st2 := [.int 0]) (k2 := 0) (g2 := 0) rfl rfl rfl ?_
  refine hV.if_ne_f (tgt := 12) dJxe99ae_doubleToLongBits_ccdee_4 (by decide) (by decide) ?_
  refine hV.dload_n 0 dJxe99ae_doubleToLongBits_ccdee_7 rfl ?_
  refine hV.d2raw dJxe99ae_doubleToLongBits_ccdee_8 kd_Jxe99ae_134 (Nat.le_of_ble_eq_true rfl) (Nat.le_of_ble_eq_true rfl) (by decide) ?_
  exact hE.2.1 dJxe99ae_doubleToLongBits_ccdee_11 rfl (by decide) (by decide) (zRl rfl rfl rfl)

set_option maxRecDepth 100000 in
set_option maxHeartbeats 4000000 in
theorem c_X5_digest {l : Launch} {D : va_G} {base : Nat} (G : l.stackTraces = false) {h : zH} {n : Nat} {b : Nat} {μ : zB} {φ : Nat → Int32} {L : Nat} (hL : φ 3 = nI L) (hL2 : L ≤ 60) {k : Nat} (hk : φ 1 = nI k) (hx0 : xOk (μ 0)) (hp0 : pinZ (μ 0)) (hall : ∀ c, c < 7 → ¬ alN (wv (μ 0) c) 7 = 0) (hn : ¬ μ 0 3 = 0 → vf_n64 (FP.ddiv (FP.i2d (μ 0 4)) (FP.i2d (μ 0 3)))) (hq : Op.cmpValue (FP.dcmp (shV (μ 0)) (shV (μ 0))) .l = 0) :
    zCt l D base 8 yX5_digest w_X5_digest [.ref b] (setM h b φ μ) n 0 0 (zRE (some (.long (dgV (μ 0) k (μ 4) L))) (fun h' => ∃ w x y, h' = setM h b (va_up φ 0 0) (sa (sa (sa μ 1 w) 5 x) 6 y)) n) := by
  refine zCt.of G (by decide) (Nat.le_of_ble_eq_true rfl) (fun Sx V X hV hE hX => ?_)
  show V 0 [(0, .ref b)] [] (setM h b φ μ) n 0 0
  have hbp := bpC_le (μ 0) 56
  refine hV.aload_n 0 dX5_digest_0 rfl ?_
  refine hV.iconst (v := 0) dX5_digest_1 (by decide) ?_
  refine hV.putf dX5_digest_2 fp_X5_35 M_o (Nat.le_of_ble_eq_true rfl) rfl rfl M_f0 ?_
  refine hV.ldc2 dX5_digest_5 kc_X5_181 ?_
  refine hV.lstore_n (ls2 := [(1, .long 3677), (0, .ref b)]) dX5_digest_8 (by decide) rfl ?_
  refine hV.iconst (v := 0) dX5_digest_9 (by decide) ?_
  refine hV.istore_n (ls2 := [(3, .int 0), (1, .long 3677), (0, .ref b)]) dX5_digest_10 (by decide) rfl ?_
  refine zHeap (h2 := setM h b (va_up φ 0 0) (sa (sa (sa μ 1 (μ 1)) 5 (μ 5)) 6 (μ 6))) (by exact congrArg (fun z => setM h b _ z) (sa_0156 μ).symm) ?_
  have loopi1 : ∀ (ri1 i1 : Nat) (g1 : Int64), i1 + ri1 = 18 → (g1 = hsN (fun i => cnN (μ 0) k i) i1 (3677)) → V 11 [(3, .int (nI i1)), (1, .long g1), (0, .ref b)] [] (setM h b (va_up φ 0 0) (sa (sa (sa μ 1 (μ 1)) 5 (μ 5)) 6 (μ 6))) n 0 0 := by
    intro ri1
    induction ri1 with
    | zero =>
      intro i1 g1 hi1 h1
      refine hV.iload_n 0 dX5_digest_11 rfl ?_
      refine hV.bipush (v := 18) dX5_digest_12 (by decide) ?_
      refine hV.icmp_ge_t (tgt := 36) dX5_digest_14 (by decide) ((nI_leI (a := 18) (b := i1) (by omega) (by omega)).mpr (by omega)) ?_
      have ei1 : i1 = 18 := (by omega)
      rw [ei1] at h1
      refine hV.iconst (v := 0) dX5_digest_36 (by decide) ?_
      refine hV.istore_n (ls2 := [(3, .int 0), (1, .long g1), (0, .ref b)]) dX5_digest_37 (by decide) rfl ?_
      have loopi2 : ∀ (ri2 i2 : Nat) (g2 : Int64), i2 + ri2 = 56 → (g2 = hpN (fun i => μ 0 (20 + i)) i2 (g1)) → V 38 [(3, .int (nI i2)), (1, .long g2), (0, .ref b)] [] (setM h b (va_up φ 0 0) (sa (sa (sa μ 1 (μ 1)) 5 (μ 5)) 6 (μ 6))) n 0 0 := by
        intro ri2
        induction ri2 with
        | zero =>
          intro i2 g2 hi2 h2
          refine hV.iload_n 0 dX5_digest_38 rfl ?_
          refine hV.bipush (v := 56) dX5_digest_39 (by decide) ?_
          refine hV.icmp_ge_t (tgt := 65) dX5_digest_41 (by decide) ((nI_leI (a := 56) (b := i2) (by omega) (by omega)).mpr (by omega)) ?_
          have ei2 : i2 = 56 := (by omega)
          rw [ei2] at h2
          refine hV.aload_n 2 dX5_digest_65 rfl ?_
          refine hV.callV1 (rest := []) dX5_digest_66 (c_X5_bentPins G) my_X5_bentPins kv_X5_146 M_o rfl rfl rfl (Nat.le_of_ble_eq_true rfl) (Nat.le_of_ble_eq_true rfl) (Nat.le_of_ble_eq_true rfl) (Nat.le_of_ble_eq_true rfl) (Nat.le_of_ble_eq_true rfl) (st2 := [.int (bpN (μ 0) 56)]) (k2 := 0) (g2 := 0) rfl rfl rfl ?_
          refine zTop (v := nI (bpC (μ 0) 56)) (bpN_C _ _) ?_
          refine hV.istore_n (ls2 := [(3, .int (nI (bpC (μ 0) 56))), (1, .long g2), (0, .ref b)]) dX5_digest_69 (by decide) rfl ?_
          refine hV.iconst (v := 0) dX5_digest_70 (by decide) ?_
          refine hV.istore (ls2 := [(4, .int 0), (3, .int (nI (bpC (μ 0) 56))), (1, .long g2), (0, .ref b)]) dX5_digest_71 (by decide) rfl ?_
          have loopi3 : ∀ (ri3 i3 : Nat) (g3 : Int64), i3 + ri3 = bpC (μ 0) 56 → (g3 = hsN (fun i => baN (μ 0) (nI i) 56) i3 (g2)) → V 73 [(4, .int (nI i3)), (3, .int (nI (bpC (μ 0) 56))), (1, .long g3), (0, .ref b)] [] (setM h b (va_up φ 0 0) (sa (sa (sa μ 1 (μ 1)) 5 (μ 5)) 6 (μ 6))) n 0 0 := by
            intro ri3
            induction ri3 with
            | zero =>
              intro i3 g3 hi3 h3
              refine hV.iload 0 dX5_digest_73 rfl ?_
              refine hV.iload_n 1 dX5_digest_75 rfl ?_
              refine hV.icmp_ge_t (tgt := 99) dX5_digest_76 (by decide) ((nI_leI (a := bpC (μ 0) 56) (b := i3) (by omega) (by omega)).mpr (by omega)) ?_
              have ei3 : i3 = bpC (μ 0) 56 := (by omega)
              rw [ei3] at h3
              refine hV.iconst (v := 0) dX5_digest_99 (by decide) ?_
              refine hV.istore (ls2 := [(4, .int 0), (3, .int (nI (bpC (μ 0) 56))), (1, .long g3), (0, .ref b)]) dX5_digest_100 (by decide) rfl ?_
              have loopi4 : ∀ (ri4 i4 : Nat) (g4 : Int64), i4 + ri4 = 8 → (g4 = hsN (fun i => μ 0 (167 + i)) i4 (g3)) → V 102 [(4, .int (nI i4)), (1, .long g4), (0, .ref b)] [] (setM h b (va_up φ 0 0) (sa (sa (sa μ 1 (μ 1)) 5 (μ 5)) 6 (μ 6))) n 0 0 := by
                intro ri4
                induction ri4 with
                | zero =>
                  intro i4 g4 hi4 h4
                  refine hV.iload 0 dX5_digest_102 rfl ?_
                  refine hV.bipush (v := 8) dX5_digest_104 (by decide) ?_
                  refine hV.icmp_ge_t (tgt := 134) dX5_digest_106 (by decide) ((nI_leI (a := 8) (b := i4) (by omega) (by omega)).mpr (by omega)) ?_
                  have ei4 : i4 = 8 := (by omega)
                  rw [ei4] at h4
                  refine hV.iconst (v := 0) dX5_digest_134 (by decide) ?_
                  refine hV.istore (ls2 := [(4, .int 0), (1, .long g4), (0, .ref b)]) dX5_digest_135 (by decide) rfl ?_
                  have loopi5 : ∀ (ri5 i5 : Nat) (g5 : Int64), i5 + ri5 = 7 → (g5 = dgP (μ 0) i5 (g4)) → V 137 [(4, .int (nI i5)), (1, .long g5), (0, .ref b)] [] (setM h b (va_up φ 0 0) (sa (sa (sa μ 1 (μ 1)) 5 (μ 5)) 6 (μ 6))) n 0 0 := by
                    intro ri5
                    induction ri5 with
                    | zero =>
                      intro i5 g5 hi5 h5
                      refine hV.iload 0 dX5_digest_137 rfl ?_
                      refine hV.bipush (v := 7) dX5_digest_139 (by decide) ?_
                      refine hV.icmp_ge_t (tgt := 181) dX5_digest_141 (by decide) ((nI_leI (a := 7) (b := i5) (by omega) (by omega)).mpr (by omega)) ?_
                      have ei5 : i5 = 7 := (by omega)
                      rw [ei5] at h5
                      refine hV.iconst (v := 0) dX5_digest_181 (by decide) ?_
                      refine hV.istore (ls2 := [(4, .int 0), (1, .long g5), (0, .ref b)]) dX5_digest_182 (by decide) rfl ?_
                      have loopi7 : ∀ (ri7 i7 : Nat) (g7 : Int64), i7 + ri7 = 3 → (g7 = hsN (fun i => μ 0 (17 + i)) i7 (g5)) → V 184 [(4, .int (nI i7)), (1, .long g7), (0, .ref b)] [] (setM h b (va_up φ 0 0) (sa (sa (sa μ 1 (μ 1)) 5 (μ 5)) 6 (μ 6))) n 0 0 := by
                        intro ri7
                        induction ri7 with
                        | zero =>
                          intro i7 g7 hi7 h7
                          refine hV.iload 0 dX5_digest_184 rfl ?_
                          refine hV.iconst (v := 3) dX5_digest_186 (by decide) ?_
                          refine hV.icmp_ge_t (tgt := 214) dX5_digest_187 (by decide) ((nI_leI (a := 3) (b := i7) (by omega) (by omega)).mpr (by omega)) ?_
                          have ei7 : i7 = 3 := (by omega)
                          rw [ei7] at h7
                          refine hV.iconst (v := 0) dX5_digest_214 (by decide) ?_
                          refine hV.istore (ls2 := [(4, .int 0), (1, .long g7), (0, .ref b)]) dX5_digest_215 (by decide) rfl ?_
                          have loopc : ∀ (rc c : Nat) (g : Int64) (w x y : Nat → Int32), c + rc = 7 → (g = dgC (μ 0) c (g7)) → V 217 [(4, .int (nI c)), (1, .long g), (0, .ref b)] [] (setM h b (va_up φ 0 0) (sa (sa (sa μ 1 w) 5 x) 6 y)) n 0 0 := by
                            intro rc
                            induction rc with
                            | zero =>
                              intro c g w x y hc hg
                              refine hV.iload 0 dX5_digest_217 rfl ?_
                              refine hV.bipush (v := 7) dX5_digest_219 (by decide) ?_
                              refine hV.icmp_ge_t (tgt := 321) dX5_digest_221 (by decide) ((nI_leI (a := 7) (b := c) (by omega) (by omega)).mpr (by omega)) ?_
                              have ec : c = 7 := (by omega)
                              rw [ec] at hg
                              refine hV.ldc2 dX5_digest_321 kc_X5_183 ?_
                              refine hV.lload_n 1 dX5_digest_324 rfl ?_
                              refine hV.lmul dX5_digest_325 ?_
                              refine hV.aload_n 2 dX5_digest_326 rfl ?_
                              refine hV.callV2 (rest := [.long (31 * g)]) dX5_digest_327 (c_X5_findBestColumn G (by exact hall)) my_X5_findBestColumn kv_X5_171 M_o rfl rfl rfl (Nat.le_of_ble_eq_true rfl) (Nat.le_of_ble_eq_true rfl) (Nat.le_of_ble_eq_true rfl) (Nat.le_of_ble_eq_true rfl) (Nat.le_of_ble_eq_true rfl) (st2 := [.int ((bcN (μ 0) 7).1), .long (31 * g)]) (k2 := 0) (g2 := 0) rfl rfl rfl (fun h1 hs1 => ?_)
                              obtain ⟨x1, y1, rfl⟩ := hs1
                              refine zHeap (h2 := setM h b (va_up φ 0 0) (sa (sa (sa μ 1 w) 5 x1) 6 y1)) (by exact congrArg (fun z => setM h b _ z) sa_56) ?_
                              refine hV.i2l dX5_digest_330 rfl ?_
                              refine hV.ladd dX5_digest_331 ?_
                              refine hV.lstore_n (ls2 := [(1, .long ((31 * g) + (Int32.toInt64 ((bcN (μ 0) 7).1)))), (4, .int (nI c)), (0, .ref b)]) dX5_digest_332 (by decide) rfl ?_
                              refine hV.ldc2 dX5_digest_333 kc_X5_183 ?_
                              refine hV.lload_n 0 dX5_digest_336 rfl ?_
                              refine hV.lmul dX5_digest_337 ?_
                              refine hV.aload_n 2 dX5_digest_338 rfl ?_
                              refine hV.callV1 (rest := [.long (31 * ((31 * g) + (Int32.toInt64 ((bcN (μ 0) 7).1))))]) dX5_digest_339 (c_X5_share G (by exact hn)) my_X5_share kv_X5_177 M_o rfl rfl rfl (Nat.le_of_ble_eq_true rfl) (Nat.le_of_ble_eq_true rfl) (Nat.le_of_ble_eq_true rfl) (Nat.le_of_ble_eq_true rfl) (Nat.le_of_ble_eq_true rfl) (st2 := [.double (shV (μ 0)), .long (31 * ((31 * g) + (Int32.toInt64 ((bcN (μ 0) 7).1))))]) (k2 := 0) (g2 := 0) rfl rfl rfl ?_
                              refine hV.callS1 (rest := [.long (31 * ((31 * g) + (Int32.toInt64 ((bcN (μ 0) 7).1))))]) dX5_digest_342 (c_Jxe99ae_doubleToLongBits_ccdee G (by exact hq)) my_Jxe99ae_doubleToLongBits_ccdee ks_X5_185 rfl rfl (Nat.le_of_ble_eq_true rfl) (Nat.le_of_ble_eq_true rfl) (Nat.le_of_ble_eq_true rfl) (Nat.le_of_ble_eq_true rfl) (Nat.le_of_ble_eq_true rfl) (st2 := [.long (UInt64.toInt64 (shV (μ 0))), .long (31 * ((31 * g) + (Int32.toInt64 ((bcN (μ 0) 7).1))))]) (k2 := 0) (g2 := 0) rfl rfl rfl ?_
                              refine hV.ladd dX5_digest_345 ?_
                              refine hV.lstore_n (ls2 := [(1, .long ((31 * ((31 * g) + (Int32.toInt64 ((bcN (μ 0) 7).1)))) + (UInt64.toInt64 (shV (μ 0))))), (4, .int (nI c)), (0, .ref b)]) dX5_digest_346 (by decide) rfl ?_
                              refine hV.ldc2 dX5_digest_347 kc_X5_183 ?_
                              refine hV.lload_n 0 dX5_digest_350 rfl ?_
                              refine hV.lmul dX5_digest_351 ?_
                              refine hV.aload_n 2 dX5_digest_352 rfl ?_
                              refine hV.getf (v := .int (φ 3)) dX5_digest_353 fl_X5_109 M_o rfl ?_
                              refine zTop (v := nI L) hL ?_
                              refine hV.i2l dX5_digest_356 rfl ?_
                              refine hV.ladd dX5_digest_357 ?_
                              refine hV.lstore_n (ls2 := [(1, .long ((31 * ((31 * ((31 * g) + (Int32.toInt64 ((bcN (μ 0) 7).1)))) + (UInt64.toInt64 (shV (μ 0))))) + (Int32.toInt64 (nI L)))), (4, .int (nI c)), (0, .ref b)]) dX5_digest_358 (by decide) rfl ?_
                              refine hV.iconst (v := 0) dX5_digest_359 (by decide) ?_
                              refine hV.istore (ls2 := [(4, .int 0), (1, .long ((31 * ((31 * ((31 * g) + (Int32.toInt64 ((bcN (μ 0) 7).1)))) + (UInt64.toInt64 (shV (μ 0))))) + (Int32.toInt64 (nI L)))), (0, .ref b)]) dX5_digest_360 (by decide) rfl ?_
                              have loop9 : ∀ (r9 j9 : Nat) (g9 : Int64), j9 + r9 = L → (g9 = hsN (μ 4) j9 ((31 * ((31 * ((31 * g) + (Int32.toInt64 ((bcN (μ 0) 7).1)))) + (UInt64.toInt64 (shV (μ 0))))) + (Int32.toInt64 (nI L)))) → V 362 [(4, .int (nI j9)), (1, .long g9), (0, .ref b)] [] (setM h b (va_up φ 0 0) (sa (sa (sa μ 1 w) 5 x1) 6 y1)) n 0 0 := by
                                intro r9
                                induction r9 with
                                | zero =>
                                  intro j9 g9 hj9 hg9
                                  have e9 : j9 = L := (by omega)
                                  rw [e9] at hg9
                                  refine hV.iload 0 dX5_digest_362 rfl ?_
                                  refine hV.aload_n 2 dX5_digest_364 rfl ?_
                                  refine hV.getf (v := .int (φ 3)) dX5_digest_365 fl_X5_109 M_o rfl ?_
                                  refine zTop (v := nI L) hL ?_
                                  refine hV.icmp_ge_t (tgt := 392) dX5_digest_368 (by decide) ((nI_leI (a := L) (b := j9) (by omega) (by omega)).mpr (by omega)) ?_
                                  refine hV.lload_n 1 dX5_digest_392 rfl ?_
                                  exact hE.2.1 dX5_digest_393 rfl (Nat.le_of_ble_eq_true rfl) (Nat.le_of_ble_eq_true rfl) (zREl (by rw [hg9, hg, h7, h5, h4, h3, h2, h1]; rfl) ⟨_, _, _, rfl⟩ rfl)
                                | succ r9 ih =>
                                  intro j9 g9 hj9 hg9
                                  refine hV.iload 0 dX5_digest_362 rfl ?_
                                  refine hV.aload_n 2 dX5_digest_364 rfl ?_
                                  refine hV.getf (v := .int (φ 3)) dX5_digest_365 fl_X5_109 M_o rfl ?_
                                  refine zTop (v := nI L) hL ?_
                                  refine hV.icmp_ge_f (tgt := 392) dX5_digest_368 (by decide) (fun q => absurd ((nI_leI (a := L) (b := j9) (by omega) (by omega)).mp q) (by omega)) ?_
                                  refine hV.ldc2 dX5_digest_371 kc_X5_183 ?_
                                  refine hV.lload_n 1 dX5_digest_374 rfl ?_
                                  refine hV.lmul dX5_digest_375 ?_
                                  refine hV.aload_n 2 dX5_digest_376 rfl ?_
                                  refine hV.getf (v := .ref (b + 5)) dX5_digest_377 fl_X5_22 M_o rfl ?_
                                  refine hV.iload 0 dX5_digest_380 rfl ?_
                                  refine hV.iald (j := j9) dX5_digest_382 M_a4 (zix_nI (by omega)) (by omega) ?_
                                  refine zTop (v := μ 4 j9) rfl ?_
                                  refine hV.i2l dX5_digest_383 rfl ?_
                                  refine hV.ladd dX5_digest_384 ?_
                                  refine hV.lstore_n (ls2 := [(1, .long ((31 * g9) + (Int32.toInt64 (μ 4 j9)))), (4, .int (nI j9)), (0, .ref b)]) dX5_digest_385 (by decide) rfl ?_
                                  refine hV.iinc 1 (v := nI (j9 + 1)) (ls2 := [(4, .int (nI (j9 + 1))), (1, .long ((31 * g9) + (Int32.toInt64 (μ 4 j9)))), (0, .ref b)]) dX5_digest_386 rfl (nI_1 _) (by decide) rfl ?_
                                  refine hV.goto (tgt := 362) dX5_digest_389 (by decide) ?_
                                  exact ih (j9 + 1) _ (by omega) (by rw [hg9]; rfl)
                              exact loop9 (L) 0 _ (by omega) rfl
                            | succ rc ih =>
                              intro c g w x y hc hg
                              refine hV.iload 0 dX5_digest_217 rfl ?_
                              refine hV.bipush (v := 7) dX5_digest_219 (by decide) ?_
                              refine hV.icmp_ge_f (tgt := 321) dX5_digest_221 (by decide) (fun q => absurd ((nI_leI (a := 7) (b := c) (by omega) (by omega)).mp q) (by omega)) ?_
                              refine hV.iconst (v := 0) dX5_digest_224 (by decide) ?_
                              refine hV.istore (ls2 := [(5, .int 0), (4, .int (nI c)), (1, .long g), (0, .ref b)]) dX5_digest_225 (by decide) rfl ?_
                              have loopp : ∀ (rp p : Nat) (g2 : Int64) (x2 y2 : Nat → Int32), p + rp = 7 → (g2 = dgW (wv (μ 0) c) p g) → V 227 [(5, .int (nI p)), (4, .int (nI c)), (1, .long g2), (0, .ref b)] [] (setM h b (va_up φ 0 0) (sa (sa (sa μ 1 w) 5 x2) 6 y2)) n 0 0 := by
                                intro rp
                                induction rp with
                                | zero =>
                                  intro p g2 x2 y2 hp hg2
                                  refine hV.iload 0 dX5_digest_227 rfl ?_
                                  refine hV.bipush (v := 7) dX5_digest_229 (by decide) ?_
                                  refine hV.icmp_ge_t (tgt := 270) dX5_digest_231 (by decide) ((nI_leI (a := 7) (b := p) (by omega) (by omega)).mpr (by omega)) ?_
                                  have ep : p = 7 := (by omega)
                                  rw [ep] at hg2
                                  refine hV.iconst (v := 0) dX5_digest_270 (by decide) ?_
                                  refine hV.istore (ls2 := [(5, .int 0), (4, .int (nI c)), (1, .long g2), (0, .ref b)]) dX5_digest_271 (by decide) rfl ?_
                                  have loopq : ∀ (rq qq : Nat) (g3 : Int64) (w2 : Nat → Int32), qq + rq = 4 → (g3 = hsN (fun w => ldV (μ 0) c w) qq g2) → V 273 [(5, .int (nI qq)), (4, .int (nI c)), (1, .long g3), (0, .ref b)] [] (setM h b (va_up φ 0 0) (sa (sa (sa μ 1 w2) 5 x2) 6 y2)) n 0 0 := by
                                    intro rq
                                    induction rq with
                                    | zero =>
                                      intro qq g3 w2 hqq hg3
                                      refine hV.iload 0 dX5_digest_273 rfl ?_
                                      refine hV.iconst (v := 4) dX5_digest_275 (by decide) ?_
                                      refine hV.icmp_ge_t (tgt := 301) dX5_digest_276 (by decide) ((nI_leI (a := 4) (b := qq) (by omega) (by omega)).mpr (by omega)) ?_
                                      have ew : qq = 4 := (by omega)
                                      rw [ew] at hg3
                                      refine hV.ldc2 dX5_digest_301 kc_X5_183 ?_
                                      refine hV.lload_n 2 dX5_digest_304 rfl ?_
                                      refine hV.lmul dX5_digest_305 ?_
                                      refine hV.aload_n 3 dX5_digest_306 rfl ?_
                                      refine hV.iload 1 dX5_digest_307 rfl ?_
                                      refine hV.callV1 (rest := [.long (31 * g3)]) dX5_digest_309 (c_X5_launchesToOpen G (c := c) (by omega) hx0 hp0) my_X5_launchesToOpen kv_X5_174 M_o rfl rfl rfl (Nat.le_of_ble_eq_true rfl) (Nat.le_of_ble_eq_true rfl) (Nat.le_of_ble_eq_true rfl) (Nat.le_of_ble_eq_true rfl) (Nat.le_of_ble_eq_true rfl) (st2 := [.int (ltV (μ 0) c), .long (31 * g3)]) (k2 := 0) (g2 := 0) rfl rfl rfl ?_
                                      refine zHeap (h2 := setM h b (va_up φ 0 0) (sa (sa (sa μ 1 (cpz w2 (μ 0) 175)) 5 x2) 6 y2)) (by exact congrArg (fun z => setM h b _ z) sa_156) ?_
                                      generalize cpz w2 (μ 0) 175 = w2
                                      refine hV.i2l dX5_digest_312 rfl ?_
                                      refine hV.ladd dX5_digest_313 ?_
                                      refine hV.lstore_n (ls2 := [(1, .long ((31 * g3) + (Int32.toInt64 (ltV (μ 0) c)))), (5, .int (nI qq)), (4, .int (nI c)), (0, .ref b)]) dX5_digest_314 (by decide) rfl ?_
                                      refine hV.iinc 2 (v := nI (c + 1)) (ls2 := [(4, .int (nI (c + 1))), (1, .long ((31 * g3) + (Int32.toInt64 (ltV (μ 0) c)))), (5, .int (nI qq)), (0, .ref b)]) dX5_digest_315 rfl (nI_1 _) (by decide) rfl ?_
                                      refine hV.goto (tgt := 217) dX5_digest_318 (by decide) ?_
                                      refine hV.pick [0, 1, 3] (ls2 := [(4, .int (nI (c + 1))), (1, .long ((31 * g3) + (Int32.toInt64 (ltV (μ 0) c)))), (0, .ref b)]) rfl ?_
                                      exact ih (c + 1) _ _ _ _ (by omega) (by rw [hg3, hg2, hg]; rfl)
                                    | succ rq ih =>
                                      intro qq g3 w2 hqq hg3
                                      refine hV.iload 0 dX5_digest_273 rfl ?_
                                      refine hV.iconst (v := 4) dX5_digest_275 (by decide) ?_
                                      refine hV.icmp_ge_f (tgt := 301) dX5_digest_276 (by decide) (fun q => absurd ((nI_leI (a := 4) (b := qq) (by omega) (by omega)).mp q) (by omega)) ?_
                                      refine hV.ldc2 dX5_digest_279 kc_X5_183 ?_
                                      refine hV.lload_n 2 dX5_digest_282 rfl ?_
                                      refine hV.lmul dX5_digest_283 ?_
                                      refine hV.aload_n 3 dX5_digest_284 rfl ?_
                                      refine hV.iload 1 dX5_digest_285 rfl ?_
                                      refine hV.iload 0 dX5_digest_287 rfl ?_
                                      refine hV.callV1 (rest := [.long (31 * g3)]) dX5_digest_289 (c_X5_launched G (c := c) (w := qq) (by omega) (by omega) hx0 hp0) my_X5_launched kv_X5_168 M_o rfl rfl rfl (Nat.le_of_ble_eq_true rfl) (Nat.le_of_ble_eq_true rfl) (Nat.le_of_ble_eq_true rfl) (Nat.le_of_ble_eq_true rfl) (Nat.le_of_ble_eq_true rfl) (st2 := [.int (ldV (μ 0) c qq), .long (31 * g3)]) (k2 := 0) (g2 := 0) rfl rfl rfl ?_
                                      refine zHeap (h2 := setM h b (va_up φ 0 0) (sa (sa (sa μ 1 (cpz w2 (μ 0) 175)) 5 x2) 6 y2)) (by exact congrArg (fun z => setM h b _ z) sa_156) ?_
                                      generalize cpz w2 (μ 0) 175 = w3
                                      refine hV.i2l dX5_digest_292 rfl ?_
                                      refine hV.ladd dX5_digest_293 ?_
                                      refine hV.lstore_n (ls2 := [(1, .long ((31 * g3) + (Int32.toInt64 (ldV (μ 0) c qq)))), (5, .int (nI qq)), (4, .int (nI c)), (0, .ref b)]) dX5_digest_294 (by decide) rfl ?_
                                      refine hV.iinc 1 (v := nI (qq + 1)) (ls2 := [(5, .int (nI (qq + 1))), (1, .long ((31 * g3) + (Int32.toInt64 (ldV (μ 0) c qq)))), (4, .int (nI c)), (0, .ref b)]) dX5_digest_295 rfl (nI_1 _) (by decide) rfl ?_
                                      refine hV.goto (tgt := 273) dX5_digest_298 (by decide) ?_
                                      refine hV.pick [0, 2, 1, 3] (ls2 := [(5, .int (nI (qq + 1))), (4, .int (nI c)), (1, .long ((31 * g3) + (Int32.toInt64 (ldV (μ 0) c qq)))), (0, .ref b)]) rfl ?_
                                      exact ih (qq + 1) _ _ (by omega) (by rw [hg3]; rfl)
                                  exact loopq (4) 0 _ _ (by omega) rfl
                                | succ rp ih =>
                                  intro p g2 x2 y2 hp hg2
                                  refine hV.iload 0 dX5_digest_227 rfl ?_
                                  refine hV.bipush (v := 7) dX5_digest_229 (by decide) ?_
                                  refine hV.icmp_ge_f (tgt := 270) dX5_digest_231 (by decide) (fun q => absurd ((nI_leI (a := 7) (b := p) (by omega) (by omega)).mp q) (by omega)) ?_
                                  refine hV.ldc2 dX5_digest_234 kc_X5_183 ?_
                                  refine hV.ldc2 dX5_digest_237 kc_X5_183 ?_
                                  refine hV.lload_n 2 dX5_digest_240 rfl ?_
                                  refine hV.lmul dX5_digest_241 ?_
                                  refine hV.aload_n 3 dX5_digest_242 rfl ?_
                                  refine hV.iload 1 dX5_digest_243 rfl ?_
                                  refine hV.iload 0 dX5_digest_245 rfl ?_
                                  refine hV.callV1 (rest := [.long (31 * g2), .long 31]) dX5_digest_247 (c_X5_waysTo G (c := c) (p := p) (by omega) (by omega)) my_X5_waysTo kv_X5_156 M_o rfl rfl rfl (Nat.le_of_ble_eq_true rfl) (Nat.le_of_ble_eq_true rfl) (Nat.le_of_ble_eq_true rfl) (Nat.le_of_ble_eq_true rfl) (Nat.le_of_ble_eq_true rfl) (st2 := [.int (wv (μ 0) c p), .long (31 * g2), .long 31]) (k2 := 0) (g2 := 0) rfl rfl rfl ?_
                                  refine zHeap (h2 := setM h b (va_up φ 0 0) (sa (sa (sa μ 1 w) 5 ((fwQ (μ 0) c x2 y2).1)) 6 ((fwQ (μ 0) c x2 y2).2))) (by exact congrArg (fun z => setM h b _ z) sa_56) ?_
                                  generalize (fwQ (μ 0) c x2 y2).1 = x4
                                  generalize (fwQ (μ 0) c x2 y2).2 = y4
                                  refine hV.i2l dX5_digest_250 rfl ?_
                                  refine hV.ladd dX5_digest_251 ?_
                                  refine hV.lmul dX5_digest_252 ?_
                                  refine hV.aload_n 3 dX5_digest_253 rfl ?_
                                  refine hV.iload 1 dX5_digest_254 rfl ?_
                                  refine hV.iload 0 dX5_digest_256 rfl ?_
                                  refine hV.callV1 (rest := [.long (31 * ((31 * g2) + (Int32.toInt64 (wv (μ 0) c p))))]) dX5_digest_258 (c_X5_waysTo G (c := c) (p := p) (by omega) (by omega)) my_X5_waysTo kv_X5_156 M_o rfl rfl rfl (Nat.le_of_ble_eq_true rfl) (Nat.le_of_ble_eq_true rfl) (Nat.le_of_ble_eq_true rfl) (Nat.le_of_ble_eq_true rfl) (Nat.le_of_ble_eq_true rfl) (st2 := [.int (wv (μ 0) c p), .long (31 * ((31 * g2) + (Int32.toInt64 (wv (μ 0) c p))))]) (k2 := 0) (g2 := 0) rfl rfl rfl ?_
                                  refine zHeap (h2 := setM h b (va_up φ 0 0) (sa (sa (sa μ 1 w) 5 ((fwQ (μ 0) c x4 y4).1)) 6 ((fwQ (μ 0) c x4 y4).2))) (by exact congrArg (fun z => setM h b _ z) sa_56) ?_
                                  generalize (fwQ (μ 0) c x4 y4).1 = x5
                                  generalize (fwQ (μ 0) c x4 y4).2 = y5
                                  refine hV.i2l dX5_digest_261 rfl ?_
                                  refine hV.ladd dX5_digest_262 ?_
                                  refine hV.lstore_n (ls2 := [(1, .long ((31 * ((31 * g2) + (Int32.toInt64 (wv (μ 0) c p)))) + (Int32.toInt64 (wv (μ 0) c p)))), (5, .int (nI p)), (4, .int (nI c)), (0, .ref b)]) dX5_digest_263 (by decide) rfl ?_
                                  refine hV.iinc 1 (v := nI (p + 1)) (ls2 := [(5, .int (nI (p + 1))), (1, .long ((31 * ((31 * g2) + (Int32.toInt64 (wv (μ 0) c p)))) + (Int32.toInt64 (wv (μ 0) c p)))), (4, .int (nI c)), (0, .ref b)]) dX5_digest_264 rfl (nI_1 _) (by decide) rfl ?_
                                  refine hV.goto (tgt := 227) dX5_digest_267 (by decide) ?_
                                  refine hV.pick [0, 2, 1, 3] (ls2 := [(5, .int (nI (p + 1))), (4, .int (nI c)), (1, .long ((31 * ((31 * g2) + (Int32.toInt64 (wv (μ 0) c p)))) + (Int32.toInt64 (wv (μ 0) c p)))), (0, .ref b)]) rfl ?_
                                  exact ih (p + 1) _ _ _ (by omega) (by rw [hg2]; rfl)
                              exact loopp (7) 0 _ _ _ (by omega) rfl
                          exact loopc (7) 0 _ _ _ _ (by omega) rfl
                        | succ ri7 ih =>
                          intro i7 g7 hi7 h7
                          refine hV.iload 0 dX5_digest_184 rfl ?_
                          refine hV.iconst (v := 3) dX5_digest_186 (by decide) ?_
                          refine hV.icmp_ge_f (tgt := 214) dX5_digest_187 (by decide) (fun q => absurd ((nI_leI (a := 3) (b := i7) (by omega) (by omega)).mp q) (by omega)) ?_
                          refine hV.ldc2 dX5_digest_190 kc_X5_183 ?_
                          refine hV.lload_n 1 dX5_digest_193 rfl ?_
                          refine hV.lmul dX5_digest_194 ?_
                          refine hV.aload_n 2 dX5_digest_195 rfl ?_
                          refine hV.getf (v := .ref (b + 1)) dX5_digest_196 fl_X5_7 M_o rfl ?_
                          refine hV.bipush (v := 17) dX5_digest_199 (by decide) ?_
                          refine hV.iload 0 dX5_digest_201 rfl ?_
                          refine hV.iaddN (a := 17) (b := i7) dX5_digest_203 ?_
                          refine hV.iald (j := 17 + i7) dX5_digest_204 M_a0 (zix_nI (by omega)) (by omega) ?_
                          refine zTop (v := μ 0 (17 + i7)) rfl ?_
                          refine hV.i2l dX5_digest_205 rfl ?_
                          refine hV.ladd dX5_digest_206 ?_
                          refine hV.lstore_n (ls2 := [(1, .long ((31 * g7) + (Int32.toInt64 (μ 0 (17 + i7))))), (4, .int (nI i7)), (0, .ref b)]) dX5_digest_207 (by decide) rfl ?_
                          refine hV.iinc 1 (v := nI (i7 + 1)) (ls2 := [(4, .int (nI (i7 + 1))), (1, .long ((31 * g7) + (Int32.toInt64 (μ 0 (17 + i7))))), (0, .ref b)]) dX5_digest_208 rfl (nI_1 _) (by decide) rfl ?_
                          refine hV.goto (tgt := 184) dX5_digest_211 (by decide) ?_
                          exact ih (i7 + 1) _ (by omega) (by rw [h7]; rfl)
                      exact loopi7 (3) 0 _ (by omega) rfl
                    | succ ri5 ih =>
                      intro i5 g5 hi5 h5
                      refine hV.iload 0 dX5_digest_137 rfl ?_
                      refine hV.bipush (v := 7) dX5_digest_139 (by decide) ?_
                      refine hV.icmp_ge_f (tgt := 181) dX5_digest_141 (by decide) (fun q => absurd ((nI_leI (a := 7) (b := i5) (by omega) (by omega)).mp q) (by omega)) ?_
                      refine hV.iconst (v := 0) dX5_digest_144 (by decide) ?_
                      refine hV.istore (ls2 := [(5, .int 0), (4, .int (nI i5)), (1, .long g5), (0, .ref b)]) dX5_digest_145 (by decide) rfl ?_
                      have loopi6 : ∀ (ri6 i6 : Nat) (g6 : Int64), i6 + ri6 = 5 → (g6 = hsN (fun w => pkN (μ 0) i5 w) i6 (g5)) → V 147 [(5, .int (nI i6)), (4, .int (nI i5)), (1, .long g6), (0, .ref b)] [] (setM h b (va_up φ 0 0) (sa (sa (sa μ 1 (μ 1)) 5 (μ 5)) 6 (μ 6))) n 0 0 := by
                        intro ri6
                        induction ri6 with
                        | zero =>
                          intro i6 g6 hi6 h6
                          refine hV.iload 0 dX5_digest_147 rfl ?_
                          refine hV.iconst (v := 5) dX5_digest_149 (by decide) ?_
                          refine hV.icmp_ge_t (tgt := 175) dX5_digest_150 (by decide) ((nI_leI (a := 5) (b := i6) (by omega) (by omega)).mpr (by omega)) ?_
                          have ei6 : i6 = 5 := (by omega)
                          rw [ei6] at h6
                          refine hV.iinc 1 (v := nI (i5 + 1)) (ls2 := [(4, .int (nI (i5 + 1))), (5, .int (nI i6)), (1, .long g6), (0, .ref b)]) dX5_digest_175 rfl (nI_1 _) (by decide) rfl ?_
                          refine hV.goto (tgt := 137) dX5_digest_178 (by decide) ?_
                          refine hV.pick [0, 2, 3] (ls2 := [(4, .int (nI (i5 + 1))), (1, .long g6), (0, .ref b)]) rfl ?_
                          exact ih (i5 + 1) _ (by omega) (by rw [h6, h5]; rfl)
                        | succ ri6 ih =>
                          intro i6 g6 hi6 h6
                          refine hV.iload 0 dX5_digest_147 rfl ?_
                          refine hV.iconst (v := 5) dX5_digest_149 (by decide) ?_
                          refine hV.icmp_ge_f (tgt := 175) dX5_digest_150 (by decide) (fun q => absurd ((nI_leI (a := 5) (b := i6) (by omega) (by omega)).mp q) (by omega)) ?_
                          refine hV.ldc2 dX5_digest_153 kc_X5_183 ?_
                          refine hV.lload_n 2 dX5_digest_156 rfl ?_
                          refine hV.lmul dX5_digest_157 ?_
                          refine hV.aload_n 3 dX5_digest_158 rfl ?_
                          refine hV.iload 1 dX5_digest_159 rfl ?_
                          refine hV.iload 0 dX5_digest_161 rfl ?_
                          refine hV.callV1 (rest := [.long (31 * g6)]) dX5_digest_163 (c_X5_pocketNow G (p := i5) (w := i6) (by omega) (by omega)) my_X5_pocketNow kv_X5_143 M_o rfl rfl rfl (Nat.le_of_ble_eq_true rfl) (Nat.le_of_ble_eq_true rfl) (Nat.le_of_ble_eq_true rfl) (Nat.le_of_ble_eq_true rfl) (Nat.le_of_ble_eq_true rfl) (st2 := [.int (pkN (μ 0) i5 i6), .long (31 * g6)]) (k2 := 0) (g2 := 0) rfl rfl rfl ?_
                          refine hV.i2l dX5_digest_166 rfl ?_
                          refine hV.ladd dX5_digest_167 ?_
                          refine hV.lstore_n (ls2 := [(1, .long ((31 * g6) + (Int32.toInt64 (pkN (μ 0) i5 i6)))), (5, .int (nI i6)), (4, .int (nI i5)), (0, .ref b)]) dX5_digest_168 (by decide) rfl ?_
                          refine hV.iinc 1 (v := nI (i6 + 1)) (ls2 := [(5, .int (nI (i6 + 1))), (1, .long ((31 * g6) + (Int32.toInt64 (pkN (μ 0) i5 i6)))), (4, .int (nI i5)), (0, .ref b)]) dX5_digest_169 rfl (nI_1 _) (by decide) rfl ?_
                          refine hV.goto (tgt := 147) dX5_digest_172 (by decide) ?_
                          refine hV.pick [0, 2, 1, 3] (ls2 := [(5, .int (nI (i6 + 1))), (4, .int (nI i5)), (1, .long ((31 * g6) + (Int32.toInt64 (pkN (μ 0) i5 i6)))), (0, .ref b)]) rfl ?_
                          exact ih (i6 + 1) _ (by omega) (by rw [h6]; rfl)
                      exact loopi6 (5) 0 _ (by omega) rfl
                  exact loopi5 (7) 0 _ (by omega) rfl
                | succ ri4 ih =>
                  intro i4 g4 hi4 h4
                  refine hV.iload 0 dX5_digest_102 rfl ?_
                  refine hV.bipush (v := 8) dX5_digest_104 (by decide) ?_
                  refine hV.icmp_ge_f (tgt := 134) dX5_digest_106 (by decide) (fun q => absurd ((nI_leI (a := 8) (b := i4) (by omega) (by omega)).mp q) (by omega)) ?_
                  refine hV.ldc2 dX5_digest_109 kc_X5_183 ?_
                  refine hV.lload_n 1 dX5_digest_112 rfl ?_
                  refine hV.lmul dX5_digest_113 ?_
                  refine hV.aload_n 2 dX5_digest_114 rfl ?_
                  refine hV.getf (v := .ref (b + 1)) dX5_digest_115 fl_X5_7 M_o rfl ?_
                  refine hV.sipush (v := 167) dX5_digest_118 (by decide) ?_
                  refine hV.iload 0 dX5_digest_121 rfl ?_
                  refine hV.iaddN (a := 167) (b := i4) dX5_digest_123 ?_
                  refine hV.iald (j := 167 + i4) dX5_digest_124 M_a0 (zix_nI (by omega)) (by omega) ?_
                  refine zTop (v := μ 0 (167 + i4)) rfl ?_
                  refine hV.i2l dX5_digest_125 rfl ?_
                  refine hV.ladd dX5_digest_126 ?_
                  refine hV.lstore_n (ls2 := [(1, .long ((31 * g4) + (Int32.toInt64 (μ 0 (167 + i4))))), (4, .int (nI i4)), (0, .ref b)]) dX5_digest_127 (by decide) rfl ?_
                  refine hV.iinc 1 (v := nI (i4 + 1)) (ls2 := [(4, .int (nI (i4 + 1))), (1, .long ((31 * g4) + (Int32.toInt64 (μ 0 (167 + i4))))), (0, .ref b)]) dX5_digest_128 rfl (nI_1 _) (by decide) rfl ?_
                  refine hV.goto (tgt := 102) dX5_digest_131 (by decide) ?_
                  exact ih (i4 + 1) _ (by omega) (by rw [h4]; rfl)
              refine hV.pick [0, 2, 3] (ls2 := [(4, .int 0), (1, .long g3), (0, .ref b)]) rfl ?_
              exact loopi4 (8) 0 _ (by omega) rfl
            | succ ri3 ih =>
              intro i3 g3 hi3 h3
              refine hV.iload 0 dX5_digest_73 rfl ?_
              refine hV.iload_n 1 dX5_digest_75 rfl ?_
              refine hV.icmp_ge_f (tgt := 99) dX5_digest_76 (by decide) (fun q => absurd ((nI_leI (a := bpC (μ 0) 56) (b := i3) (by omega) (by omega)).mp q) (by omega)) ?_
              refine hV.ldc2 dX5_digest_79 kc_X5_183 ?_
              refine hV.lload_n 2 dX5_digest_82 rfl ?_
              refine hV.lmul dX5_digest_83 ?_
              refine hV.aload_n 3 dX5_digest_84 rfl ?_
              refine hV.iload 0 dX5_digest_85 rfl ?_
              refine hV.callV1 (rest := [.long (31 * g3)]) dX5_digest_87 (c_X5_bentAt G) my_X5_bentAt kv_X5_140 M_o rfl rfl rfl (Nat.le_of_ble_eq_true rfl) (Nat.le_of_ble_eq_true rfl) (Nat.le_of_ble_eq_true rfl) (Nat.le_of_ble_eq_true rfl) (Nat.le_of_ble_eq_true rfl) (st2 := [.int (baN (μ 0) (nI i3) 56), .long (31 * g3)]) (k2 := 0) (g2 := 0) rfl rfl rfl ?_
              refine hV.i2l dX5_digest_90 rfl ?_
              refine hV.ladd dX5_digest_91 ?_
              refine hV.lstore_n (ls2 := [(1, .long ((31 * g3) + (Int32.toInt64 (baN (μ 0) (nI i3) 56)))), (4, .int (nI i3)), (3, .int (nI (bpC (μ 0) 56))), (0, .ref b)]) dX5_digest_92 (by decide) rfl ?_
              refine hV.iinc 1 (v := nI (i3 + 1)) (ls2 := [(4, .int (nI (i3 + 1))), (1, .long ((31 * g3) + (Int32.toInt64 (baN (μ 0) (nI i3) 56)))), (3, .int (nI (bpC (μ 0) 56))), (0, .ref b)]) dX5_digest_93 rfl (nI_1 _) (by decide) rfl ?_
              refine hV.goto (tgt := 73) dX5_digest_96 (by decide) ?_
              refine hV.pick [0, 2, 1, 3] (ls2 := [(4, .int (nI (i3 + 1))), (3, .int (nI (bpC (μ 0) 56))), (1, .long ((31 * g3) + (Int32.toInt64 (baN (μ 0) (nI i3) 56)))), (0, .ref b)]) rfl ?_
              exact ih (i3 + 1) _ (by omega) (by rw [h3]; rfl)
          exact loopi3 (bpC (μ 0) 56) 0 _ (by omega) rfl
        | succ ri2 ih =>
          intro i2 g2 hi2 h2
          refine hV.iload_n 0 dX5_digest_38 rfl ?_
          refine hV.bipush (v := 56) dX5_digest_39 (by decide) ?_
          refine hV.icmp_ge_f (tgt := 65) dX5_digest_41 (by decide) (fun q => absurd ((nI_leI (a := 56) (b := i2) (by omega) (by omega)).mp q) (by omega)) ?_
          refine hV.ldc2 dX5_digest_44 kc_X5_183 ?_
          refine hV.lload_n 1 dX5_digest_47 rfl ?_
          refine hV.lmul dX5_digest_48 ?_
          refine hV.aload_n 2 dX5_digest_49 rfl ?_
          refine hV.iload_n 0 dX5_digest_50 rfl ?_
          refine hV.callV1 (rest := [.long (31 * g2)]) dX5_digest_51 (c_X5_lean G (i := i2) (by omega)) my_X5_lean kv_X5_53 M_o rfl rfl rfl (Nat.le_of_ble_eq_true rfl) (Nat.le_of_ble_eq_true rfl) (Nat.le_of_ble_eq_true rfl) (Nat.le_of_ble_eq_true rfl) (Nat.le_of_ble_eq_true rfl) (st2 := [.int ((μ 0) (20 + i2)), .long (31 * g2)]) (k2 := 0) (g2 := 0) rfl rfl rfl ?_
          refine hV.i2l dX5_digest_54 rfl ?_
          refine hV.ladd dX5_digest_55 ?_
          refine hV.lconst (v := 1) dX5_digest_56 (by decide) ?_
          refine hV.ladd dX5_digest_57 ?_
          refine hV.lstore_n (ls2 := [(1, .long (((31 * g2) + (Int32.toInt64 ((μ 0) (20 + i2)))) + 1)), (3, .int (nI i2)), (0, .ref b)]) dX5_digest_58 (by decide) rfl ?_
          refine hV.iinc 1 (v := nI (i2 + 1)) (ls2 := [(3, .int (nI (i2 + 1))), (1, .long (((31 * g2) + (Int32.toInt64 ((μ 0) (20 + i2)))) + 1)), (0, .ref b)]) dX5_digest_59 rfl (nI_1 _) (by decide) rfl ?_
          refine hV.goto (tgt := 38) dX5_digest_62 (by decide) ?_
          exact ih (i2 + 1) _ (by omega) (by rw [h2]; rfl)
      exact loopi2 (56) 0 _ (by omega) rfl
    | succ ri1 ih =>
      intro i1 g1 hi1 h1
      refine hV.iload_n 0 dX5_digest_11 rfl ?_
      refine hV.bipush (v := 18) dX5_digest_12 (by decide) ?_
      refine hV.icmp_ge_f (tgt := 36) dX5_digest_14 (by decide) (fun q => absurd ((nI_leI (a := 18) (b := i1) (by omega) (by omega)).mp q) (by omega)) ?_
      refine hV.ldc2 dX5_digest_17 kc_X5_183 ?_
      refine hV.lload_n 1 dX5_digest_20 rfl ?_
      refine hV.lmul dX5_digest_21 ?_
      refine hV.aload_n 2 dX5_digest_22 rfl ?_
      refine hV.iload_n 0 dX5_digest_23 rfl ?_
      refine hV.callV1 (rest := [.long (31 * g1)]) dX5_digest_24 (c_X5_countNow G (k := k) (w := i1) (by exact hk) (by omega)) my_X5_countNow kv_X5_149 M_o rfl rfl rfl (Nat.le_of_ble_eq_true rfl) (Nat.le_of_ble_eq_true rfl) (Nat.le_of_ble_eq_true rfl) (Nat.le_of_ble_eq_true rfl) (Nat.le_of_ble_eq_true rfl) (st2 := [.int (cnN (μ 0) k i1), .long (31 * g1)]) (k2 := 0) (g2 := 0) rfl rfl rfl ?_
      refine hV.i2l dX5_digest_27 rfl ?_
      refine hV.ladd dX5_digest_28 ?_
      refine hV.lstore_n (ls2 := [(1, .long ((31 * g1) + (Int32.toInt64 (cnN (μ 0) k i1)))), (3, .int (nI i1)), (0, .ref b)]) dX5_digest_29 (by decide) rfl ?_
      refine hV.iinc 1 (v := nI (i1 + 1)) (ls2 := [(3, .int (nI (i1 + 1))), (1, .long ((31 * g1) + (Int32.toInt64 (cnN (μ 0) k i1)))), (0, .ref b)]) dX5_digest_30 rfl (nI_1 _) (by decide) rfl ?_
      refine hV.goto (tgt := 11) dX5_digest_33 (by decide) ?_
      exact ih (i1 + 1) _ (by omega) (by rw [h1]; rfl)
  exact loopi1 (18) 0 _ (by omega) rfl
