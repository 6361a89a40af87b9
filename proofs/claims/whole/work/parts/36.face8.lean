/-! The bits of a share -/
set_option maxRecDepth 100000 in
set_option maxHeartbeats 1000000 in
theorem c_X4_bitsOf_n {l : Launch} {D : va_G} {base : Nat} (G : l.stackTraces = false) {h : zH} {n : Nat} {E T : Nat} (hE1 : 990 ≤ E) (hE2 : E ≤ 1056) (hT : T < 4503599627370496) :
    zCt l D base 2 yX4_bitsOf w_X4_bitsOf [.double (nrm E T)] (h) n 0 0 (zR (some (.long (UInt64.toInt64 (nrm E T)))) (h) (n)) := by
  refine zCt.of G (by decide) (Nat.le_of_ble_eq_true rfl) (fun Sx V X hV hE hX => ?_)
  show V 0 [(0, .double (nrm E T))] [] (h) n 0 0
  refine hV.dload_n 0 dX4_bitsOf_0 rfl ?_
  refine hV.dconst0 dX4_bitsOf_1 ?_
  refine hV.dcmp dX4_bitsOf_2 ?_
  refine hV.if_gt_t (tgt := 8) dX4_bitsOf_3 (by decide) (by rw [fcmp_pos (by omega) (by omega) hT]; decide) ?_
  refine hV.dload_n 0 dX4_bitsOf_8 rfl ?_
  refine hV.dstore_n (ls2 := [(2, .double (nrm E T)), (0, .double (nrm E T))]) dX4_bitsOf_9 (by decide) rfl ?_
  refine hV.ldc2 dX4_bitsOf_10 kc_X4_240 ?_
  refine hV.lstore (ls2 := [(4, .long 1023), (2, .double (nrm E T)), (0, .double (nrm E T))]) dX4_bitsOf_13 (by decide) rfl ?_
  refine hV.iconst (v := 0) dX4_bitsOf_15 (by decide) ?_
  refine hV.istore (ls2 := [(6, .int 0), (4, .long 1023), (2, .double (nrm E T)), (0, .double (nrm E T))]) dX4_bitsOf_16 (by decide) rfl ?_
  have loop1 : ∀ (r1 j : Nat) (e : Nat) (x : Int64), j + r1 = 64 → (j + e = E) → (j = 0 ∨ 1023 ≤ e) → (x = Int64.ofNat (1023 + j)) → V 18 [(6, .int (nI j)), (4, .long x), (2, .double (nrm e T)), (0, .double (nrm E T))] [] (h) n 0 0 := by
    intro r1
    induction r1 with
    | zero =>
      intro j e x hj he hi hx
      refine hV.iload 0 dX4_bitsOf_18 rfl ?_
      refine hV.bipush (v := 64) dX4_bitsOf_20 (by decide) ?_
      refine hV.icmp_ge_t (tgt := 51) dX4_bitsOf_22 (by decide) ((nI_leI (a := 64) (b := j) (by omega) (by omega)).mpr (by omega)) ?_
      have h51 : e < 1024 := by omega
      refine hV.iconst (v := 0) dX4_bitsOf_51 (by decide) ?_
      refine hV.istore (ls2 := [(6, .int 0), (4, .long x), (2, .double (nrm e T)), (0, .double (nrm E T))]) dX4_bitsOf_52 (by decide) rfl ?_
      have loop2 : ∀ (r2 i : Nat) (d : Nat) (y : Int64), i + r2 = 64 → (d ≤ 1023) → (i + (1023 - d) ≤ 64) → (900 ≤ d) → (y = Int64.ofNat (1023 + E - d)) → V 54 [(6, .int (nI i)), (4, .long y), (2, .double (nrm d T)), (0, .double (nrm E T))] [] (h) n 0 0 := by
        intro r2
        induction r2 with
        | zero =>
          intro i d y hi hd hi2 hd2 hy
          refine hV.iload 0 dX4_bitsOf_54 rfl ?_
          refine hV.bipush (v := 64) dX4_bitsOf_56 (by decide) ?_
          refine hV.icmp_ge_t (tgt := 85) dX4_bitsOf_58 (by decide) ((nI_leI (a := 64) (b := i) (by omega) (by omega)).mpr (by omega)) ?_
          obtain rfl : d = 1023 := by omega
          refine hV.lload 1 dX4_bitsOf_85 rfl ?_
          refine hV.ldc2 dX4_bitsOf_87 kc_X4_244 ?_
          refine hV.lmul dX4_bitsOf_90 ?_
          refine hV.dload_n 2 dX4_bitsOf_91 rfl ?_
          refine hV.dconst1 dX4_bitsOf_92 ?_
          refine hV.dsub dX4_bitsOf_93 (ffrac hT).1 ?_
          refine hV.ldc2d dX4_bitsOf_94 kc_X4_246 ?_
          refine hV.dmul dX4_bitsOf_97 (ffrac hT).2.1 ?_
          refine hV.d2l dX4_bitsOf_98 ?_
          refine hV.ladd dX4_bitsOf_99 ?_
          exact hE.2.1 dX4_bitsOf_100 rfl (by decide) (by decide) (zRl (by rw [hy, (ffrac hT).2.2, show 1023 + E - 1023 = E by omega]; exact fbits) rfl rfl)
        | succ r2 ih =>
          intro i d y hi hd hi2 hd2 hy
          refine hV.iload 0 dX4_bitsOf_54 rfl ?_
          refine hV.bipush (v := 64) dX4_bitsOf_56 (by decide) ?_
          refine hV.icmp_ge_f (tgt := 85) dX4_bitsOf_58 (by decide) (fun q => absurd ((nI_leI (a := 64) (b := i) (by omega) (by omega)).mp q) (by omega)) ?_
          refine hV.dload_n 2 dX4_bitsOf_61 rfl ?_
          refine hV.dconst1 dX4_bitsOf_62 ?_
          refine hV.dcmp dX4_bitsOf_63 ?_
          by_cases c64_1 : 0 ≤ (Op.cmpValue (FP.dcmp (nrm d T) FP.dconst1) CmpOp.g)
          · refine hV.if_ge_t (tgt := 85) dX4_bitsOf_64 (by decide) c64_1 ?_
            obtain rfl : d = 1023 := by have := (fcl nrm_1 (by omega) (by omega) (by omega) (by omega) hT).2.mp c64_1; omega
            refine hV.lload 1 dX4_bitsOf_85 rfl ?_
            refine hV.ldc2 dX4_bitsOf_87 kc_X4_244 ?_
            refine hV.lmul dX4_bitsOf_90 ?_
            refine hV.dload_n 2 dX4_bitsOf_91 rfl ?_
            refine hV.dconst1 dX4_bitsOf_92 ?_
            refine hV.dsub dX4_bitsOf_93 (ffrac hT).1 ?_
            refine hV.ldc2d dX4_bitsOf_94 kc_X4_246 ?_
            refine hV.dmul dX4_bitsOf_97 (ffrac hT).2.1 ?_
            refine hV.d2l dX4_bitsOf_98 ?_
            refine hV.ladd dX4_bitsOf_99 ?_
            exact hE.2.1 dX4_bitsOf_100 rfl (by decide) (by decide) (zRl (by rw [hy, (ffrac hT).2.2, show 1023 + E - 1023 = E by omega]; exact fbits) rfl rfl)
          · refine hV.if_ge_f (tgt := 85) dX4_bitsOf_64 (by decide) c64_1 ?_
            have h67 : d < 1023 := by have := mt (fcl nrm_1 (by omega) (by omega) (by omega) (by omega) hT).2.mpr c64_1; omega
            refine hV.dload_n 2 dX4_bitsOf_67 rfl ?_
            refine hV.ldc2d dX4_bitsOf_68 kc_X4_242 ?_
            refine hV.dmul dX4_bitsOf_71 (by rw [fdbl (by omega) (by omega) hT]; exact n64_nrm (by omega) hT) ?_
            refine zTopD (v := nrm (d + 1) T) (fdbl (by omega) (by omega) hT) ?_
            refine hV.dstore_n (ls2 := [(2, .double (nrm (d + 1) T)), (6, .int (nI i)), (4, .long y), (0, .double (nrm E T))]) dX4_bitsOf_72 (by decide) rfl ?_
            refine hV.lload 2 dX4_bitsOf_73 rfl ?_
            refine hV.lconst (v := 1) dX4_bitsOf_75 (by decide) ?_
            refine hV.lsub dX4_bitsOf_76 ?_
            refine hV.lstore (ls2 := [(4, .long (y - 1)), (2, .double (nrm (d + 1) T)), (6, .int (nI i)), (0, .double (nrm E T))]) dX4_bitsOf_77 (by decide) rfl ?_
            refine hV.iinc 2 (v := nI (i + 1)) (ls2 := [(6, .int (nI (i + 1))), (4, .long (y - 1)), (2, .double (nrm (d + 1) T)), (0, .double (nrm E T))]) dX4_bitsOf_79 rfl (nI_1 _) (by decide) rfl ?_
            refine hV.goto (tgt := 54) dX4_bitsOf_82 (by decide) ?_
            exact ih (i + 1) _ _ (by omega) (by omega) (by omega) (by omega) (fx_2 hy (by omega))
      exact loop2 (64) 0 e x (by omega) (by omega) (by omega) (by omega) (by rw [hx]; congr 1; omega)
    | succ r1 ih =>
      intro j e x hj he hi hx
      refine hV.iload 0 dX4_bitsOf_18 rfl ?_
      refine hV.bipush (v := 64) dX4_bitsOf_20 (by decide) ?_
      refine hV.icmp_ge_f (tgt := 51) dX4_bitsOf_22 (by decide) (fun q => absurd ((nI_leI (a := 64) (b := j) (by omega) (by omega)).mp q) (by omega)) ?_
      refine hV.dload_n 2 dX4_bitsOf_25 rfl ?_
      refine hV.ldc2d dX4_bitsOf_26 kc_X4_242 ?_
      refine hV.dcmp dX4_bitsOf_29 ?_
      by_cases c30_2 : (Op.cmpValue (FP.dcmp (nrm e T) 4611686018427387904) CmpOp.l) < 0
      · refine hV.if_lt_t (tgt := 51) dX4_bitsOf_30 (by decide) c30_2 ?_
        have h51 : e < 1024 := by have := (fcl nrm_2 (by omega) (by omega) (by omega) (by omega) hT).1.mp c30_2; omega
        refine hV.iconst (v := 0) dX4_bitsOf_51 (by decide) ?_
        refine hV.istore (ls2 := [(6, .int 0), (4, .long x), (2, .double (nrm e T)), (0, .double (nrm E T))]) dX4_bitsOf_52 (by decide) rfl ?_
        have loop2 : ∀ (r2 i : Nat) (d : Nat) (y : Int64), i + r2 = 64 → (d ≤ 1023) → (i + (1023 - d) ≤ 64) → (900 ≤ d) → (y = Int64.ofNat (1023 + E - d)) → V 54 [(6, .int (nI i)), (4, .long y), (2, .double (nrm d T)), (0, .double (nrm E T))] [] (h) n 0 0 := by
          intro r2
          induction r2 with
          | zero =>
            intro i d y hi hd hi2 hd2 hy
            refine hV.iload 0 dX4_bitsOf_54 rfl ?_
            refine hV.bipush (v := 64) dX4_bitsOf_56 (by decide) ?_
            refine hV.icmp_ge_t (tgt := 85) dX4_bitsOf_58 (by decide) ((nI_leI (a := 64) (b := i) (by omega) (by omega)).mpr (by omega)) ?_
            obtain rfl : d = 1023 := by omega
            refine hV.lload 1 dX4_bitsOf_85 rfl ?_
            refine hV.ldc2 dX4_bitsOf_87 kc_X4_244 ?_
            refine hV.lmul dX4_bitsOf_90 ?_
            refine hV.dload_n 2 dX4_bitsOf_91 rfl ?_
            refine hV.dconst1 dX4_bitsOf_92 ?_
            refine hV.dsub dX4_bitsOf_93 (ffrac hT).1 ?_
            refine hV.ldc2d dX4_bitsOf_94 kc_X4_246 ?_
            refine hV.dmul dX4_bitsOf_97 (ffrac hT).2.1 ?_
            refine hV.d2l dX4_bitsOf_98 ?_
            refine hV.ladd dX4_bitsOf_99 ?_
            exact hE.2.1 dX4_bitsOf_100 rfl (by decide) (by decide) (zRl (by rw [hy, (ffrac hT).2.2, show 1023 + E - 1023 = E by omega]; exact fbits) rfl rfl)
          | succ r2 ih =>
            intro i d y hi hd hi2 hd2 hy
            refine hV.iload 0 dX4_bitsOf_54 rfl ?_
            refine hV.bipush (v := 64) dX4_bitsOf_56 (by decide) ?_
            refine hV.icmp_ge_f (tgt := 85) dX4_bitsOf_58 (by decide) (fun q => absurd ((nI_leI (a := 64) (b := i) (by omega) (by omega)).mp q) (by omega)) ?_
            refine hV.dload_n 2 dX4_bitsOf_61 rfl ?_
            refine hV.dconst1 dX4_bitsOf_62 ?_
            refine hV.dcmp dX4_bitsOf_63 ?_
            by_cases c64_3 : 0 ≤ (Op.cmpValue (FP.dcmp (nrm d T) FP.dconst1) CmpOp.g)
            · refine hV.if_ge_t (tgt := 85) dX4_bitsOf_64 (by decide) c64_3 ?_
              obtain rfl : d = 1023 := by have := (fcl nrm_1 (by omega) (by omega) (by omega) (by omega) hT).2.mp c64_3; omega
              refine hV.lload 1 dX4_bitsOf_85 rfl ?_
              refine hV.ldc2 dX4_bitsOf_87 kc_X4_244 ?_
              refine hV.lmul dX4_bitsOf_90 ?_
              refine hV.dload_n 2 dX4_bitsOf_91 rfl ?_
              refine hV.dconst1 dX4_bitsOf_92 ?_
              refine hV.dsub dX4_bitsOf_93 (ffrac hT).1 ?_
              refine hV.ldc2d dX4_bitsOf_94 kc_X4_246 ?_
              refine hV.dmul dX4_bitsOf_97 (ffrac hT).2.1 ?_
              refine hV.d2l dX4_bitsOf_98 ?_
              refine hV.ladd dX4_bitsOf_99 ?_
              exact hE.2.1 dX4_bitsOf_100 rfl (by decide) (by decide) (zRl (by rw [hy, (ffrac hT).2.2, show 1023 + E - 1023 = E by omega]; exact fbits) rfl rfl)
            · refine hV.if_ge_f (tgt := 85) dX4_bitsOf_64 (by decide) c64_3 ?_
              have h67 : d < 1023 := by have := mt (fcl nrm_1 (by omega) (by omega) (by omega) (by omega) hT).2.mpr c64_3; omega
              refine hV.dload_n 2 dX4_bitsOf_67 rfl ?_
              refine hV.ldc2d dX4_bitsOf_68 kc_X4_242 ?_
              refine hV.dmul dX4_bitsOf_71 (by rw [fdbl (by omega) (by omega) hT]; exact n64_nrm (by omega) hT) ?_
              refine zTopD (v := nrm (d + 1) T) (fdbl (by omega) (by omega) hT) ?_
              refine hV.dstore_n (ls2 := [(2, .double (nrm (d + 1) T)), (6, .int (nI i)), (4, .long y), (0, .double (nrm E T))]) dX4_bitsOf_72 (by decide) rfl ?_
              refine hV.lload 2 dX4_bitsOf_73 rfl ?_
              refine hV.lconst (v := 1) dX4_bitsOf_75 (by decide) ?_
              refine hV.lsub dX4_bitsOf_76 ?_
              refine hV.lstore (ls2 := [(4, .long (y - 1)), (2, .double (nrm (d + 1) T)), (6, .int (nI i)), (0, .double (nrm E T))]) dX4_bitsOf_77 (by decide) rfl ?_
              refine hV.iinc 2 (v := nI (i + 1)) (ls2 := [(6, .int (nI (i + 1))), (4, .long (y - 1)), (2, .double (nrm (d + 1) T)), (0, .double (nrm E T))]) dX4_bitsOf_79 rfl (nI_1 _) (by decide) rfl ?_
              refine hV.goto (tgt := 54) dX4_bitsOf_82 (by decide) ?_
              exact ih (i + 1) _ _ (by omega) (by omega) (by omega) (by omega) (fx_2 hy (by omega))
        exact loop2 (64) 0 e x (by omega) (by omega) (by omega) (by omega) (by rw [hx]; congr 1; omega)
      · refine hV.if_lt_f (tgt := 51) dX4_bitsOf_30 (by decide) c30_2 ?_
        have h33 : 1024 ≤ e := by have := mt (fcl nrm_2 (by omega) (by omega) (by omega) (by omega) hT).1.mpr c30_2; omega
        refine hV.dload_n 2 dX4_bitsOf_33 rfl ?_
        refine hV.ldc2d dX4_bitsOf_34 kc_X4_242 ?_
        refine hV.ddiv dX4_bitsOf_37 (by rw [fhalf (by omega) (by omega) hT]; exact n64_nrm (by omega) hT) ?_
        refine zTopD (v := nrm (e - 1) T) (fhalf (by omega) (by omega) hT) ?_
        refine hV.dstore_n (ls2 := [(2, .double (nrm (e - 1) T)), (6, .int (nI j)), (4, .long x), (0, .double (nrm E T))]) dX4_bitsOf_38 (by decide) rfl ?_
        refine hV.lload 2 dX4_bitsOf_39 rfl ?_
        refine hV.lconst (v := 1) dX4_bitsOf_41 (by decide) ?_
        refine hV.ladd dX4_bitsOf_42 ?_
        refine hV.lstore (ls2 := [(4, .long (x + 1)), (2, .double (nrm (e - 1) T)), (6, .int (nI j)), (0, .double (nrm E T))]) dX4_bitsOf_43 (by decide) rfl ?_
        refine hV.iinc 2 (v := nI (j + 1)) (ls2 := [(6, .int (nI (j + 1))), (4, .long (x + 1)), (2, .double (nrm (e - 1) T)), (0, .double (nrm E T))]) dX4_bitsOf_45 rfl (nI_1 _) (by decide) rfl ?_
        refine hV.goto (tgt := 18) dX4_bitsOf_48 (by decide) ?_
        exact ih (j + 1) _ _ (by omega) (by omega) (by omega) (fx_1 hx)
  exact loop1 (64) 0 E _ (by omega) (by omega) (by omega) rfl

set_option maxRecDepth 100000 in
set_option maxHeartbeats 1000000 in
theorem c_X4_bitsOf_0 {l : Launch} {D : va_G} {base : Nat} (G : l.stackTraces = false) {h : zH} {n : Nat}  :
    zCt l D base 2 yX4_bitsOf w_X4_bitsOf [.double 0] (h) n 0 0 (zR (some (.long (UInt64.toInt64 0))) (h) (n)) := by
  refine zCt.of G (by decide) (Nat.le_of_ble_eq_true rfl) (fun Sx V X hV hE hX => ?_)
  show V 0 [(0, .double 0)] [] (h) n 0 0
  refine hV.dload_n 0 dX4_bitsOf_0 rfl ?_
  refine hV.dconst0 dX4_bitsOf_1 ?_
  refine hV.dcmp dX4_bitsOf_2 ?_
  refine hV.if_gt_f (tgt := 8) dX4_bitsOf_3 (by decide) (by rw [fcmp_00]; decide) ?_
  refine hV.lconst (v := 0) dX4_bitsOf_6 (by decide) ?_
  exact hE.2.1 dX4_bitsOf_7 rfl (by decide) (by decide) (zRl (by decide) rfl rfl)
