/-! The reference: what the law calls -/
theorem inV_N {k lo hi : Nat} (h1 : lo ≤ k) (h2 : k ≤ hi) (h3 : hi < 2 ^ 31) : inV (nI k) (nI lo) (nI hi) = 1 := by
  unfold inV
  rw [if_neg (fun q => absurd ((nI_ltI (by omega) (by omega)).mp q) (by omega)), if_neg (fun q => absurd ((nI_ltI (by omega) (by omega)).mp q) (by omega))]
theorem inV_T {v lo hi : Int32} (h : inV v lo hi = 1) : ¬ inV v lo hi = 0 := by rw [h]; decide

set_option maxRecDepth 100000 in
set_option maxHeartbeats 4000000 in
theorem c_X5_bend_x1 {l : Launch} {D : va_G} {base : Nat} (G : l.stackTraces = false) {h : zH} {n : Nat} {b : Nat} {μ : zB} {φ : Nat → Int32} {r c t : Int32} (f0 : (inV r 0 7) = 0) :
    zCt l D base 9 yX5_bend w_X5_bend [.ref b, .int r, .int c, .int t] (setM h b φ μ) n 0 0 (zR (some (.int 0)) (setM h b (va_up φ 0 1) μ) n) := by
  refine zCt.of G (by decide) (Nat.le_of_ble_eq_true rfl) (fun Sx V X hV hE hX => ?_)
  show V 0 [(0, .ref b), (1, .int r), (2, .int c), (3, .int t)] [] (setM h b φ μ) n 0 0
  refine hV.aload_n 0 dX5_bend_0 rfl ?_
  refine hV.iload_n 1 dX5_bend_1 rfl ?_
  refine hV.callS1 (rest := [.ref b]) dX5_bend_2 (c_X5_isRow G) my_X5_isRow ks_X5_57 rfl rfl (Nat.le_of_ble_eq_true rfl) (Nat.le_of_ble_eq_true rfl) (Nat.le_of_ble_eq_true rfl) (Nat.le_of_ble_eq_true rfl) (Nat.le_of_ble_eq_true rfl) (st2 := [.int (inV r 0 7), .ref b]) (k2 := 0) (g2 := 0) rfl rfl rfl ?_
  refine hV.if_eq_t (tgt := 15) dX5_bend_5 (by decide) f0 ?_
  refine hV.iconst (v := 1) dX5_bend_15 (by decide) ?_
  refine hV.goto (tgt := 33) dX5_bend_16 (by decide) ?_
  refine hV.putf dX5_bend_33 fp_X5_35 M_o (Nat.le_of_ble_eq_true rfl) rfl rfl M_f0 ?_
  refine hV.aload_n 0 dX5_bend_36 rfl ?_
  refine hV.getf (v := .int 1) dX5_bend_37 fl_X5_35 M_o rfl ?_
  refine hV.if_le_f (tgt := 45) dX5_bend_40 (by decide) (by decide) ?_
  refine hV.iconst (v := 0) dX5_bend_43 (by decide) ?_
  exact hE.1 dX5_bend_44 rfl rfl (by decide) (by decide) (zRi rfl rfl rfl)

set_option maxRecDepth 100000 in
set_option maxHeartbeats 4000000 in
theorem c_X5_bend_x2 {l : Launch} {D : va_G} {base : Nat} (G : l.stackTraces = false) {h : zH} {n : Nat} {b : Nat} {μ : zB} {φ : Nat → Int32} {r c t : Int32} (f0 : ¬ (inV r 0 7) = 0) (f1 : (inV c 0 6) = 0) :
    zCt l D base 9 yX5_bend w_X5_bend [.ref b, .int r, .int c, .int t] (setM h b φ μ) n 0 0 (zR (some (.int 0)) (setM h b (va_up φ 0 1) μ) n) := by
  refine zCt.of G (by decide) (Nat.le_of_ble_eq_true rfl) (fun Sx V X hV hE hX => ?_)
  show V 0 [(0, .ref b), (1, .int r), (2, .int c), (3, .int t)] [] (setM h b φ μ) n 0 0
  refine hV.aload_n 0 dX5_bend_0 rfl ?_
  refine hV.iload_n 1 dX5_bend_1 rfl ?_
  refine hV.callS1 (rest := [.ref b]) dX5_bend_2 (c_X5_isRow G) my_X5_isRow ks_X5_57 rfl rfl (Nat.le_of_ble_eq_true rfl) (Nat.le_of_ble_eq_true rfl) (Nat.le_of_ble_eq_true rfl) (Nat.le_of_ble_eq_true rfl) (Nat.le_of_ble_eq_true rfl) (st2 := [.int (inV r 0 7), .ref b]) (k2 := 0) (g2 := 0) rfl rfl rfl ?_
  refine hV.if_eq_f (tgt := 15) dX5_bend_5 (by decide) f0 ?_
  refine hV.iload_n 2 dX5_bend_8 rfl ?_
  refine hV.callS1 (rest := [.ref b]) dX5_bend_9 (c_X5_isColumn G) my_X5_isColumn ks_X5_61 rfl rfl (Nat.le_of_ble_eq_true rfl) (Nat.le_of_ble_eq_true rfl) (Nat.le_of_ble_eq_true rfl) (Nat.le_of_ble_eq_true rfl) (Nat.le_of_ble_eq_true rfl) (st2 := [.int (inV c 0 6), .ref b]) (k2 := 0) (g2 := 0) rfl rfl rfl ?_
  refine hV.if_ne_f (tgt := 19) dX5_bend_12 (by decide) f1 ?_
  refine hV.iconst (v := 1) dX5_bend_15 (by decide) ?_
  refine hV.goto (tgt := 33) dX5_bend_16 (by decide) ?_
  refine hV.putf dX5_bend_33 fp_X5_35 M_o (Nat.le_of_ble_eq_true rfl) rfl rfl M_f0 ?_
  refine hV.aload_n 0 dX5_bend_36 rfl ?_
  refine hV.getf (v := .int 1) dX5_bend_37 fl_X5_35 M_o rfl ?_
  refine hV.if_le_f (tgt := 45) dX5_bend_40 (by decide) (by decide) ?_
  refine hV.iconst (v := 0) dX5_bend_43 (by decide) ?_
  exact hE.1 dX5_bend_44 rfl rfl (by decide) (by decide) (zRi rfl rfl rfl)

set_option maxRecDepth 100000 in
set_option maxHeartbeats 4000000 in
theorem c_X5_bend_x3 {l : Launch} {D : va_G} {base : Nat} (G : l.stackTraces = false) {h : zH} {n : Nat} {b : Nat} {μ : zB} {φ : Nat → Int32} {r c t : Int32} (f0 : ¬ (inV r 0 7) = 0) (f1 : ¬ (inV c 0 6) = 0) (f2 : (inV t (-1) 1) = 0) :
    zCt l D base 9 yX5_bend w_X5_bend [.ref b, .int r, .int c, .int t] (setM h b φ μ) n 0 0 (zR (some (.int 0)) (setM h b (va_up φ 0 2) μ) n) := by
  refine zCt.of G (by decide) (Nat.le_of_ble_eq_true rfl) (fun Sx V X hV hE hX => ?_)
  show V 0 [(0, .ref b), (1, .int r), (2, .int c), (3, .int t)] [] (setM h b φ μ) n 0 0
  refine hV.aload_n 0 dX5_bend_0 rfl ?_
  refine hV.iload_n 1 dX5_bend_1 rfl ?_
  refine hV.callS1 (rest := [.ref b]) dX5_bend_2 (c_X5_isRow G) my_X5_isRow ks_X5_57 rfl rfl (Nat.le_of_ble_eq_true rfl) (Nat.le_of_ble_eq_true rfl) (Nat.le_of_ble_eq_true rfl) (Nat.le_of_ble_eq_true rfl) (Nat.le_of_ble_eq_true rfl) (st2 := [.int (inV r 0 7), .ref b]) (k2 := 0) (g2 := 0) rfl rfl rfl ?_
  refine hV.if_eq_f (tgt := 15) dX5_bend_5 (by decide) f0 ?_
  refine hV.iload_n 2 dX5_bend_8 rfl ?_
  refine hV.callS1 (rest := [.ref b]) dX5_bend_9 (c_X5_isColumn G) my_X5_isColumn ks_X5_61 rfl rfl (Nat.le_of_ble_eq_true rfl) (Nat.le_of_ble_eq_true rfl) (Nat.le_of_ble_eq_true rfl) (Nat.le_of_ble_eq_true rfl) (Nat.le_of_ble_eq_true rfl) (st2 := [.int (inV c 0 6), .ref b]) (k2 := 0) (g2 := 0) rfl rfl rfl ?_
  refine hV.if_ne_t (tgt := 19) dX5_bend_12 (by decide) f1 ?_
  refine hV.iload_n 3 dX5_bend_19 rfl ?_
  refine hV.iconst (v := (-1)) dX5_bend_20 (by decide) ?_
  refine hV.iconst (v := 1) dX5_bend_21 (by decide) ?_
  refine hV.callS1 (rest := [.ref b]) dX5_bend_22 (c_X5_in G) my_X5_in ks_X5_39 rfl rfl (Nat.le_of_ble_eq_true rfl) (Nat.le_of_ble_eq_true rfl) (Nat.le_of_ble_eq_true rfl) (Nat.le_of_ble_eq_true rfl) (Nat.le_of_ble_eq_true rfl) (st2 := [.int (inV t (-1) 1), .ref b]) (k2 := 0) (g2 := 0) rfl rfl rfl ?_
  refine hV.if_eq_t (tgt := 32) dX5_bend_25 (by decide) f2 ?_
  refine hV.iconst (v := 2) dX5_bend_32 (by decide) ?_
  refine hV.putf dX5_bend_33 fp_X5_35 M_o (Nat.le_of_ble_eq_true rfl) rfl rfl M_f0 ?_
  refine hV.aload_n 0 dX5_bend_36 rfl ?_
  refine hV.getf (v := .int 2) dX5_bend_37 fl_X5_35 M_o rfl ?_
  refine hV.if_le_f (tgt := 45) dX5_bend_40 (by decide) (by decide) ?_
  refine hV.iconst (v := 0) dX5_bend_43 (by decide) ?_
  exact hE.1 dX5_bend_44 rfl rfl (by decide) (by decide) (zRi rfl rfl rfl)

set_option maxRecDepth 100000 in
set_option maxHeartbeats 4000000 in
theorem c_X5_bend {l : Launch} {D : va_G} {base : Nat} (G : l.stackTraces = false) {h : zH} {n : Nat} {b : Nat} {μ : zB} {φ : Nat → Int32} {k : Nat} (hk : φ 1 = nI k) (hk6 : k ≤ 6) {r c : Nat} {t : Int32} (hr : r < 8) (hc : c < 7) (f2 : ¬ (inV t (-1) 1) = 0) :
    zCt l D base 9 yX5_bend w_X5_bend [.ref b, .int (nI r), .int (nI c), .int t] (setM h b φ μ) n 0 0 (zR (some (.int (μ 0 (20 + (7 * r + c)) + 1))) (setM h b (va_up (va_up φ 0 0) 1 (nI (recK k))) (sa (sa μ 2 (recF (μ 2) (μ 0) k)) 0 (bendZ (μ 0) (7 * r + c) t))) n) := by
  refine zCt.of G (by decide) (Nat.le_of_ble_eq_true rfl) (fun Sx V X hV hE hX => ?_)
  show V 0 [(0, .ref b), (1, .int (nI r)), (2, .int (nI c)), (3, .int t)] [] (setM h b φ μ) n 0 0
  have f0 : ¬ (inV (nI r) 0 7) = 0 := (inV_T (inV_r7 hr))
  have f1 : ¬ (inV (nI c) 0 6) = 0 := (inV_T (inV_c6 hc))
  refine hV.aload_n 0 dX5_bend_0 rfl ?_
  refine hV.iload_n 1 dX5_bend_1 rfl ?_
  refine hV.callS1 (rest := [.ref b]) dX5_bend_2 (c_X5_isRow G) my_X5_isRow ks_X5_57 rfl rfl (Nat.le_of_ble_eq_true rfl) (Nat.le_of_ble_eq_true rfl) (Nat.le_of_ble_eq_true rfl) (Nat.le_of_ble_eq_true rfl) (Nat.le_of_ble_eq_true rfl) (st2 := [.int (inV (nI r) 0 7), .ref b]) (k2 := 0) (g2 := 0) rfl rfl rfl ?_
  refine hV.if_eq_f (tgt := 15) dX5_bend_5 (by decide) f0 ?_
  refine hV.iload_n 2 dX5_bend_8 rfl ?_
  refine hV.callS1 (rest := [.ref b]) dX5_bend_9 (c_X5_isColumn G) my_X5_isColumn ks_X5_61 rfl rfl (Nat.le_of_ble_eq_true rfl) (Nat.le_of_ble_eq_true rfl) (Nat.le_of_ble_eq_true rfl) (Nat.le_of_ble_eq_true rfl) (Nat.le_of_ble_eq_true rfl) (st2 := [.int (inV (nI c) 0 6), .ref b]) (k2 := 0) (g2 := 0) rfl rfl rfl ?_
  refine hV.if_ne_t (tgt := 19) dX5_bend_12 (by decide) f1 ?_
  refine hV.iload_n 3 dX5_bend_19 rfl ?_
  refine hV.iconst (v := (-1)) dX5_bend_20 (by decide) ?_
  refine hV.iconst (v := 1) dX5_bend_21 (by decide) ?_
  refine hV.callS1 (rest := [.ref b]) dX5_bend_22 (c_X5_in G) my_X5_in ks_X5_39 rfl rfl (Nat.le_of_ble_eq_true rfl) (Nat.le_of_ble_eq_true rfl) (Nat.le_of_ble_eq_true rfl) (Nat.le_of_ble_eq_true rfl) (Nat.le_of_ble_eq_true rfl) (st2 := [.int (inV t (-1) 1), .ref b]) (k2 := 0) (g2 := 0) rfl rfl rfl ?_
  refine hV.if_eq_f (tgt := 32) dX5_bend_25 (by decide) f2 ?_
  refine hV.iconst (v := 0) dX5_bend_28 (by decide) ?_
  refine hV.goto (tgt := 33) dX5_bend_29 (by decide) ?_
  refine hV.putf dX5_bend_33 fp_X5_35 M_o (Nat.le_of_ble_eq_true rfl) rfl rfl M_f0 ?_
  refine hV.aload_n 0 dX5_bend_36 rfl ?_
  refine hV.getf (v := .int 0) dX5_bend_37 fl_X5_35 M_o rfl ?_
  refine hV.if_le_t (tgt := 45) dX5_bend_40 (by decide) (by decide) ?_
  refine hV.aload_n 0 dX5_bend_45 rfl ?_
  refine hV.callV1 (rest := []) dX5_bend_46 (c_X5_record G (k := k) (by exact hk) hk6) my_X5_record kv_X5_50 M_o rfl rfl rfl (Nat.le_of_ble_eq_true rfl) (Nat.le_of_ble_eq_true rfl) (Nat.le_of_ble_eq_true rfl) (Nat.le_of_ble_eq_true rfl) (Nat.le_of_ble_eq_true rfl) (st2 := []) (k2 := 0) (g2 := 0) rfl rfl rfl ?_
  refine zHeap (h2 := setM h b (va_up (va_up φ 0 0) 1 (nI (recK k))) (sa μ 2 (recF (μ 2) (μ 0) k))) rfl ?_
  refine hV.aload_n 0 dX5_bend_49 rfl ?_
  refine hV.iload_n 1 dX5_bend_50 rfl ?_
  refine hV.iload_n 2 dX5_bend_51 rfl ?_
  refine hV.iload_n 3 dX5_bend_52 rfl ?_
  refine hV.callV1 (rest := []) dX5_bend_53 (c_X5_doBend G (r := r) (c := c) (by omega) (by omega)) my_X5_doBend kv_X5_64 M_o rfl rfl rfl (Nat.le_of_ble_eq_true rfl) (Nat.le_of_ble_eq_true rfl) (Nat.le_of_ble_eq_true rfl) (Nat.le_of_ble_eq_true rfl) (Nat.le_of_ble_eq_true rfl) (st2 := [.int ((μ 0) (20 + (7 * r + c)) + 1)]) (k2 := 0) (g2 := 0) rfl rfl rfl ?_
  refine zHeap (h2 := setM h b (va_up (va_up φ 0 0) 1 (nI (recK k))) (sa (sa μ 2 (recF (μ 2) (μ 0) k)) 0 (bendZ (μ 0) (7 * r + c) t))) rfl ?_
  exact hE.1 dX5_bend_56 rfl rfl (by decide) (by decide) (zRi rfl rfl rfl)

set_option maxRecDepth 100000 in
set_option maxHeartbeats 4000000 in
theorem c_X5_pocket_x1 {l : Launch} {D : va_G} {base : Nat} (G : l.stackTraces = false) {h : zH} {n : Nat} {b : Nat} {μ : zB} {φ : Nat → Int32} {p q w : Int32} (f0 : (inV p 0 6) = 0) :
    zCt l D base 9 yX5_pocket w_X5_pocket [.ref b, .int p, .int q, .int w] (setM h b φ μ) n 0 0 (zR (some (.int 0)) (setM h b (va_up φ 0 1) μ) n) := by
  refine zCt.of G (by decide) (Nat.le_of_ble_eq_true rfl) (fun Sx V X hV hE hX => ?_)
  show V 0 [(0, .ref b), (1, .int p), (2, .int q), (3, .int w)] [] (setM h b φ μ) n 0 0
  refine hV.aload_n 0 dX5_pocket_0 rfl ?_
  refine hV.iload_n 1 dX5_pocket_1 rfl ?_
  refine hV.callS1 (rest := [.ref b]) dX5_pocket_2 (c_X5_isColumn G) my_X5_isColumn ks_X5_61 rfl rfl (Nat.le_of_ble_eq_true rfl) (Nat.le_of_ble_eq_true rfl) (Nat.le_of_ble_eq_true rfl) (Nat.le_of_ble_eq_true rfl) (Nat.le_of_ble_eq_true rfl) (st2 := [.int (inV p 0 6), .ref b]) (k2 := 0) (g2 := 0) rfl rfl rfl ?_
  refine hV.if_ne_f (tgt := 12) dX5_pocket_5 (by decide) f0 ?_
  refine hV.iconst (v := 1) dX5_pocket_8 (by decide) ?_
  refine hV.goto (tgt := 36) dX5_pocket_9 (by decide) ?_
  refine hV.putf dX5_pocket_36 fp_X5_35 M_o (Nat.le_of_ble_eq_true rfl) rfl rfl M_f0 ?_
  refine hV.aload_n 0 dX5_pocket_39 rfl ?_
  refine hV.getf (v := .int 1) dX5_pocket_40 fl_X5_35 M_o rfl ?_
  refine hV.if_le_f (tgt := 48) dX5_pocket_43 (by decide) (by decide) ?_
  refine hV.iconst (v := 0) dX5_pocket_46 (by decide) ?_
  exact hE.1 dX5_pocket_47 rfl rfl (by decide) (by decide) (zRi rfl rfl rfl)

set_option maxRecDepth 100000 in
set_option maxHeartbeats 4000000 in
theorem c_X5_pocket_x2 {l : Launch} {D : va_G} {base : Nat} (G : l.stackTraces = false) {h : zH} {n : Nat} {b : Nat} {μ : zB} {φ : Nat → Int32} {p q w : Int32} (f0 : ¬ (inV p 0 6) = 0) (f1 : (inV q 0 2) = 0) :
    zCt l D base 9 yX5_pocket w_X5_pocket [.ref b, .int p, .int q, .int w] (setM h b φ μ) n 0 0 (zR (some (.int 0)) (setM h b (va_up φ 0 2) μ) n) := by
  refine zCt.of G (by decide) (Nat.le_of_ble_eq_true rfl) (fun Sx V X hV hE hX => ?_)
  show V 0 [(0, .ref b), (1, .int p), (2, .int q), (3, .int w)] [] (setM h b φ μ) n 0 0
  refine hV.aload_n 0 dX5_pocket_0 rfl ?_
  refine hV.iload_n 1 dX5_pocket_1 rfl ?_
  refine hV.callS1 (rest := [.ref b]) dX5_pocket_2 (c_X5_isColumn G) my_X5_isColumn ks_X5_61 rfl rfl (Nat.le_of_ble_eq_true rfl) (Nat.le_of_ble_eq_true rfl) (Nat.le_of_ble_eq_true rfl) (Nat.le_of_ble_eq_true rfl) (Nat.le_of_ble_eq_true rfl) (st2 := [.int (inV p 0 6), .ref b]) (k2 := 0) (g2 := 0) rfl rfl rfl ?_
  refine hV.if_ne_t (tgt := 12) dX5_pocket_5 (by decide) f0 ?_
  refine hV.iload_n 2 dX5_pocket_12 rfl ?_
  refine hV.iconst (v := 0) dX5_pocket_13 (by decide) ?_
  refine hV.iconst (v := 2) dX5_pocket_14 (by decide) ?_
  refine hV.callS1 (rest := [.ref b]) dX5_pocket_15 (c_X5_in G) my_X5_in ks_X5_39 rfl rfl (Nat.le_of_ble_eq_true rfl) (Nat.le_of_ble_eq_true rfl) (Nat.le_of_ble_eq_true rfl) (Nat.le_of_ble_eq_true rfl) (Nat.le_of_ble_eq_true rfl) (st2 := [.int (inV q 0 2), .ref b]) (k2 := 0) (g2 := 0) rfl rfl rfl ?_
  refine hV.if_eq_t (tgt := 35) dX5_pocket_18 (by decide) f1 ?_
  refine hV.iconst (v := 2) dX5_pocket_35 (by decide) ?_
  refine hV.putf dX5_pocket_36 fp_X5_35 M_o (Nat.le_of_ble_eq_true rfl) rfl rfl M_f0 ?_
  refine hV.aload_n 0 dX5_pocket_39 rfl ?_
  refine hV.getf (v := .int 2) dX5_pocket_40 fl_X5_35 M_o rfl ?_
  refine hV.if_le_f (tgt := 48) dX5_pocket_43 (by decide) (by decide) ?_
  refine hV.iconst (v := 0) dX5_pocket_46 (by decide) ?_
  exact hE.1 dX5_pocket_47 rfl rfl (by decide) (by decide) (zRi rfl rfl rfl)

set_option maxRecDepth 100000 in
set_option maxHeartbeats 4000000 in
theorem c_X5_pocket_x3 {l : Launch} {D : va_G} {base : Nat} (G : l.stackTraces = false) {h : zH} {n : Nat} {b : Nat} {μ : zB} {φ : Nat → Int32} {p q w : Int32} (f0 : ¬ (inV p 0 6) = 0) (f1 : ¬ (inV q 0 2) = 0) (f2 : (inV w 0 15) = 0) :
    zCt l D base 9 yX5_pocket w_X5_pocket [.ref b, .int p, .int q, .int w] (setM h b φ μ) n 0 0 (zR (some (.int 0)) (setM h b (va_up φ 0 2) μ) n) := by
  refine zCt.of G (by decide) (Nat.le_of_ble_eq_true rfl) (fun Sx V X hV hE hX => ?_)
  show V 0 [(0, .ref b), (1, .int p), (2, .int q), (3, .int w)] [] (setM h b φ μ) n 0 0
  refine hV.aload_n 0 dX5_pocket_0 rfl ?_
  refine hV.iload_n 1 dX5_pocket_1 rfl ?_
  refine hV.callS1 (rest := [.ref b]) dX5_pocket_2 (c_X5_isColumn G) my_X5_isColumn ks_X5_61 rfl rfl (Nat.le_of_ble_eq_true rfl) (Nat.le_of_ble_eq_true rfl) (Nat.le_of_ble_eq_true rfl) (Nat.le_of_ble_eq_true rfl) (Nat.le_of_ble_eq_true rfl) (st2 := [.int (inV p 0 6), .ref b]) (k2 := 0) (g2 := 0) rfl rfl rfl ?_
  refine hV.if_ne_t (tgt := 12) dX5_pocket_5 (by decide) f0 ?_
  refine hV.iload_n 2 dX5_pocket_12 rfl ?_
  refine hV.iconst (v := 0) dX5_pocket_13 (by decide) ?_
  refine hV.iconst (v := 2) dX5_pocket_14 (by decide) ?_
  refine hV.callS1 (rest := [.ref b]) dX5_pocket_15 (c_X5_in G) my_X5_in ks_X5_39 rfl rfl (Nat.le_of_ble_eq_true rfl) (Nat.le_of_ble_eq_true rfl) (Nat.le_of_ble_eq_true rfl) (Nat.le_of_ble_eq_true rfl) (Nat.le_of_ble_eq_true rfl) (st2 := [.int (inV q 0 2), .ref b]) (k2 := 0) (g2 := 0) rfl rfl rfl ?_
  refine hV.if_eq_f (tgt := 35) dX5_pocket_18 (by decide) f1 ?_
  refine hV.iload_n 3 dX5_pocket_21 rfl ?_
  refine hV.iconst (v := 0) dX5_pocket_22 (by decide) ?_
  refine hV.bipush (v := 15) dX5_pocket_23 (by decide) ?_
  refine hV.callS1 (rest := [.ref b]) dX5_pocket_25 (c_X5_in G) my_X5_in ks_X5_39 rfl rfl (Nat.le_of_ble_eq_true rfl) (Nat.le_of_ble_eq_true rfl) (Nat.le_of_ble_eq_true rfl) (Nat.le_of_ble_eq_true rfl) (Nat.le_of_ble_eq_true rfl) (st2 := [.int (inV w 0 15), .ref b]) (k2 := 0) (g2 := 0) rfl rfl rfl ?_
  refine hV.if_eq_t (tgt := 35) dX5_pocket_28 (by decide) f2 ?_
  refine hV.iconst (v := 2) dX5_pocket_35 (by decide) ?_
  refine hV.putf dX5_pocket_36 fp_X5_35 M_o (Nat.le_of_ble_eq_true rfl) rfl rfl M_f0 ?_
  refine hV.aload_n 0 dX5_pocket_39 rfl ?_
  refine hV.getf (v := .int 2) dX5_pocket_40 fl_X5_35 M_o rfl ?_
  refine hV.if_le_f (tgt := 48) dX5_pocket_43 (by decide) (by decide) ?_
  refine hV.iconst (v := 0) dX5_pocket_46 (by decide) ?_
  exact hE.1 dX5_pocket_47 rfl rfl (by decide) (by decide) (zRi rfl rfl rfl)

def pocZ (z : zZ) (p : Nat) (q w : Int32) : zZ := va_up (va_up (va_up z (132 + 5 * p + 2) (if q = 2 then (if z (132 + 5 * p) = 2 then z (132 + 5 * p + 2) else 0) else 0)) (132 + 5 * p + 0) q) (132 + 5 * p + 1) w

set_option maxRecDepth 100000 in
set_option maxHeartbeats 4000000 in
theorem c_X5_pocket {l : Launch} {D : va_G} {base : Nat} (G : l.stackTraces = false) {h : zH} {n : Nat} {b : Nat} {μ : zB} {φ : Nat → Int32} {k : Nat} (hk : φ 1 = nI k) (hk6 : k ≤ 6) {p : Nat} {q w : Int32} (hp : p < 7) (f1 : ¬ (inV q 0 2) = 0) (f2 : ¬ (inV w 0 15) = 0) :
    zCt l D base 9 yX5_pocket w_X5_pocket [.ref b, .int (nI p), .int q, .int w] (setM h b φ μ) n 0 0 (zR (some (.int (μ 0 (132 + 5 * p + 1)))) (setM h b (va_up (va_up φ 0 0) 1 (nI (recK k))) (sa (sa μ 2 (recF (μ 2) (μ 0) k)) 0 (pocZ (μ 0) p q w))) n) := by
  refine zCt.of G (by decide) (Nat.le_of_ble_eq_true rfl) (fun Sx V X hV hE hX => ?_)
  show V 0 [(0, .ref b), (1, .int (nI p)), (2, .int q), (3, .int w)] [] (setM h b φ μ) n 0 0
  have f0 : ¬ (inV (nI p) 0 6) = 0 := (inV_T (inV_c6 hp))
  refine hV.aload_n 0 dX5_pocket_0 rfl ?_
  refine hV.iload_n 1 dX5_pocket_1 rfl ?_
  refine hV.callS1 (rest := [.ref b]) dX5_pocket_2 (c_X5_isColumn G) my_X5_isColumn ks_X5_61 rfl rfl (Nat.le_of_ble_eq_true rfl) (Nat.le_of_ble_eq_true rfl) (Nat.le_of_ble_eq_true rfl) (Nat.le_of_ble_eq_true rfl) (Nat.le_of_ble_eq_true rfl) (st2 := [.int (inV (nI p) 0 6), .ref b]) (k2 := 0) (g2 := 0) rfl rfl rfl ?_
  refine hV.if_ne_t (tgt := 12) dX5_pocket_5 (by decide) f0 ?_
  refine hV.iload_n 2 dX5_pocket_12 rfl ?_
  refine hV.iconst (v := 0) dX5_pocket_13 (by decide) ?_
  refine hV.iconst (v := 2) dX5_pocket_14 (by decide) ?_
  refine hV.callS1 (rest := [.ref b]) dX5_pocket_15 (c_X5_in G) my_X5_in ks_X5_39 rfl rfl (Nat.le_of_ble_eq_true rfl) (Nat.le_of_ble_eq_true rfl) (Nat.le_of_ble_eq_true rfl) (Nat.le_of_ble_eq_true rfl) (Nat.le_of_ble_eq_true rfl) (st2 := [.int (inV q 0 2), .ref b]) (k2 := 0) (g2 := 0) rfl rfl rfl ?_
  refine hV.if_eq_f (tgt := 35) dX5_pocket_18 (by decide) f1 ?_
  refine hV.iload_n 3 dX5_pocket_21 rfl ?_
  refine hV.iconst (v := 0) dX5_pocket_22 (by decide) ?_
  refine hV.bipush (v := 15) dX5_pocket_23 (by decide) ?_
  refine hV.callS1 (rest := [.ref b]) dX5_pocket_25 (c_X5_in G) my_X5_in ks_X5_39 rfl rfl (Nat.le_of_ble_eq_true rfl) (Nat.le_of_ble_eq_true rfl) (Nat.le_of_ble_eq_true rfl) (Nat.le_of_ble_eq_true rfl) (Nat.le_of_ble_eq_true rfl) (st2 := [.int (inV w 0 15), .ref b]) (k2 := 0) (g2 := 0) rfl rfl rfl ?_
  refine hV.if_eq_f (tgt := 35) dX5_pocket_28 (by decide) f2 ?_
  refine hV.iconst (v := 0) dX5_pocket_31 (by decide) ?_
  refine hV.goto (tgt := 36) dX5_pocket_32 (by decide) ?_
  refine hV.putf dX5_pocket_36 fp_X5_35 M_o (Nat.le_of_ble_eq_true rfl) rfl rfl M_f0 ?_
  refine hV.aload_n 0 dX5_pocket_39 rfl ?_
  refine hV.getf (v := .int 0) dX5_pocket_40 fl_X5_35 M_o rfl ?_
  refine hV.if_le_t (tgt := 48) dX5_pocket_43 (by decide) (by decide) ?_
  refine hV.aload_n 0 dX5_pocket_48 rfl ?_
  refine hV.callV1 (rest := []) dX5_pocket_49 (c_X5_record G (k := k) (by exact hk) hk6) my_X5_record kv_X5_50 M_o rfl rfl rfl (Nat.le_of_ble_eq_true rfl) (Nat.le_of_ble_eq_true rfl) (Nat.le_of_ble_eq_true rfl) (Nat.le_of_ble_eq_true rfl) (Nat.le_of_ble_eq_true rfl) (st2 := []) (k2 := 0) (g2 := 0) rfl rfl rfl ?_
  refine zHeap (h2 := setM h b (va_up (va_up φ 0 0) 1 (nI (recK k))) (sa μ 2 (recF (μ 2) (μ 0) k))) rfl ?_
  refine hV.aload_n 0 dX5_pocket_52 rfl ?_
  refine hV.iload_n 1 dX5_pocket_53 rfl ?_
  refine hV.iconst (v := 1) dX5_pocket_54 (by decide) ?_
  refine hV.callV1 (rest := []) dX5_pocket_55 (c_X5_of G (p := p) (w := 1) (by omega) (by omega)) my_X5_of kv_X5_68 M_o rfl rfl rfl (Nat.le_of_ble_eq_true rfl) (Nat.le_of_ble_eq_true rfl) (Nat.le_of_ble_eq_true rfl) (Nat.le_of_ble_eq_true rfl) (Nat.le_of_ble_eq_true rfl) (st2 := [.int ((μ 0) (132 + 5 * p + 1))]) (k2 := 0) (g2 := 0) rfl rfl rfl ?_
  refine hV.istore (ls2 := [(4, .int ((μ 0) (132 + 5 * p + 1))), (0, .ref b), (1, .int (nI p)), (2, .int q), (3, .int w)]) dX5_pocket_58 (by decide) rfl ?_
  refine hV.aload_n 1 dX5_pocket_60 rfl ?_
  refine hV.iload_n 2 dX5_pocket_61 rfl ?_
  refine hV.iconst (v := 2) dX5_pocket_62 (by decide) ?_
  refine hV.iload_n 3 dX5_pocket_63 rfl ?_
  refine hV.iconst (v := 2) dX5_pocket_64 (by decide) ?_
  by_cases c65_1 : q = 2
  · refine hV.icmp_ne_f (tgt := 87) dX5_pocket_65 (by decide) c65_1 ?_
    refine hV.aload_n 1 dX5_pocket_68 rfl ?_
    refine hV.iload_n 2 dX5_pocket_69 rfl ?_
    refine hV.iconst (v := 0) dX5_pocket_70 (by decide) ?_
    refine hV.callV1 (rest := [.int 2, .int (nI p), .ref b]) dX5_pocket_71 (c_X5_of G (p := p) (w := 0) (by omega) (by omega)) my_X5_of kv_X5_68 M_o rfl rfl rfl (Nat.le_of_ble_eq_true rfl) (Nat.le_of_ble_eq_true rfl) (Nat.le_of_ble_eq_true rfl) (Nat.le_of_ble_eq_true rfl) (Nat.le_of_ble_eq_true rfl) (st2 := [.int ((μ 0) (132 + 5 * p)), .int 2, .int (nI p), .ref b]) (k2 := 0) (g2 := 0) rfl rfl rfl ?_
    refine hV.iconst (v := 2) dX5_pocket_74 (by decide) ?_
    by_cases c75_2 : ((μ 0) (132 + 5 * p)) = 2
    · refine hV.icmp_ne_f (tgt := 87) dX5_pocket_75 (by decide) c75_2 ?_
      refine hV.aload_n 1 dX5_pocket_78 rfl ?_
      refine hV.iload_n 2 dX5_pocket_79 rfl ?_
      refine hV.iconst (v := 2) dX5_pocket_80 (by decide) ?_
      refine hV.callV1 (rest := [.int 2, .int (nI p), .ref b]) dX5_pocket_81 (c_X5_of G (p := p) (w := 2) (by omega) (by omega)) my_X5_of kv_X5_68 M_o rfl rfl rfl (Nat.le_of_ble_eq_true rfl) (Nat.le_of_ble_eq_true rfl) (Nat.le_of_ble_eq_true rfl) (Nat.le_of_ble_eq_true rfl) (Nat.le_of_ble_eq_true rfl) (st2 := [.int ((μ 0) (132 + 5 * p + 2)), .int 2, .int (nI p), .ref b]) (k2 := 0) (g2 := 0) rfl rfl rfl ?_
      refine hV.goto (tgt := 88) dX5_pocket_84 (by decide) ?_
      refine hV.callV1 (rest := []) dX5_pocket_88 (c_X5_put G (p := p) (w := 2) (by omega) (by omega)) my_X5_put kv_X5_31 M_o rfl rfl rfl (Nat.le_of_ble_eq_true rfl) (Nat.le_of_ble_eq_true rfl) (Nat.le_of_ble_eq_true rfl) (Nat.le_of_ble_eq_true rfl) (Nat.le_of_ble_eq_true rfl) (st2 := []) (k2 := 0) (g2 := 0) rfl rfl rfl ?_
      refine zHeap (h2 := setM h b (va_up (va_up φ 0 0) 1 (nI (recK k))) (sa (sa μ 2 (recF (μ 2) (μ 0) k)) 0 (va_up (μ 0) (132 + 5 * p + 2) ((μ 0) (132 + 5 * p + 2))))) rfl ?_
      refine hV.aload_n 1 dX5_pocket_91 rfl ?_
      refine hV.iload_n 2 dX5_pocket_92 rfl ?_
      refine hV.iconst (v := 0) dX5_pocket_93 (by decide) ?_
      refine hV.iload_n 3 dX5_pocket_94 rfl ?_
      refine hV.callV1 (rest := []) dX5_pocket_95 (c_X5_put G (p := p) (w := 0) (by omega) (by omega)) my_X5_put kv_X5_31 M_o rfl rfl rfl (Nat.le_of_ble_eq_true rfl) (Nat.le_of_ble_eq_true rfl) (Nat.le_of_ble_eq_true rfl) (Nat.le_of_ble_eq_true rfl) (Nat.le_of_ble_eq_true rfl) (st2 := []) (k2 := 0) (g2 := 0) rfl rfl rfl ?_
      refine zHeap (h2 := setM h b (va_up (va_up φ 0 0) 1 (nI (recK k))) (sa (sa μ 2 (recF (μ 2) (μ 0) k)) 0 (va_up (va_up (μ 0) (132 + 5 * p + 2) ((μ 0) (132 + 5 * p + 2))) (132 + 5 * p) q))) (by rw [sa_z]; rfl) ?_
      refine hV.aload_n 1 dX5_pocket_98 rfl ?_
      refine hV.iload_n 2 dX5_pocket_99 rfl ?_
      refine hV.iconst (v := 1) dX5_pocket_100 (by decide) ?_
      refine hV.iload_n 4 dX5_pocket_101 rfl ?_
      refine hV.callV1 (rest := []) dX5_pocket_102 (c_X5_put G (p := p) (w := 1) (by omega) (by omega)) my_X5_put kv_X5_31 M_o rfl rfl rfl (Nat.le_of_ble_eq_true rfl) (Nat.le_of_ble_eq_true rfl) (Nat.le_of_ble_eq_true rfl) (Nat.le_of_ble_eq_true rfl) (Nat.le_of_ble_eq_true rfl) (st2 := []) (k2 := 0) (g2 := 0) rfl rfl rfl ?_
      refine zHeap (h2 := setM h b (va_up (va_up φ 0 0) 1 (nI (recK k))) (sa (sa μ 2 (recF (μ 2) (μ 0) k)) 0 (va_up (va_up (va_up (μ 0) (132 + 5 * p + 2) ((μ 0) (132 + 5 * p + 2))) (132 + 5 * p) q) (132 + 5 * p + 1) w))) (by rw [sa_z]; rfl) ?_
      refine hV.iload 0 dX5_pocket_105 rfl ?_
      exact hE.1 dX5_pocket_107 rfl rfl (by decide) (by decide) (zRi rfl (by unfold pocZ; simp [sa_z, c65_1, c75_2]) rfl)
    · refine hV.icmp_ne_t (tgt := 87) dX5_pocket_75 (by decide) c75_2 ?_
      refine hV.iconst (v := 0) dX5_pocket_87 (by decide) ?_
      refine hV.callV1 (rest := []) dX5_pocket_88 (c_X5_put G (p := p) (w := 2) (by omega) (by omega)) my_X5_put kv_X5_31 M_o rfl rfl rfl (Nat.le_of_ble_eq_true rfl) (Nat.le_of_ble_eq_true rfl) (Nat.le_of_ble_eq_true rfl) (Nat.le_of_ble_eq_true rfl) (Nat.le_of_ble_eq_true rfl) (st2 := []) (k2 := 0) (g2 := 0) rfl rfl rfl ?_
      refine zHeap (h2 := setM h b (va_up (va_up φ 0 0) 1 (nI (recK k))) (sa (sa μ 2 (recF (μ 2) (μ 0) k)) 0 (va_up (μ 0) (132 + 5 * p + 2) 0))) rfl ?_
      refine hV.aload_n 1 dX5_pocket_91 rfl ?_
      refine hV.iload_n 2 dX5_pocket_92 rfl ?_
      refine hV.iconst (v := 0) dX5_pocket_93 (by decide) ?_
      refine hV.iload_n 3 dX5_pocket_94 rfl ?_
      refine hV.callV1 (rest := []) dX5_pocket_95 (c_X5_put G (p := p) (w := 0) (by omega) (by omega)) my_X5_put kv_X5_31 M_o rfl rfl rfl (Nat.le_of_ble_eq_true rfl) (Nat.le_of_ble_eq_true rfl) (Nat.le_of_ble_eq_true rfl) (Nat.le_of_ble_eq_true rfl) (Nat.le_of_ble_eq_true rfl) (st2 := []) (k2 := 0) (g2 := 0) rfl rfl rfl ?_
      refine zHeap (h2 := setM h b (va_up (va_up φ 0 0) 1 (nI (recK k))) (sa (sa μ 2 (recF (μ 2) (μ 0) k)) 0 (va_up (va_up (μ 0) (132 + 5 * p + 2) 0) (132 + 5 * p) q))) (by rw [sa_z]; rfl) ?_
      refine hV.aload_n 1 dX5_pocket_98 rfl ?_
      refine hV.iload_n 2 dX5_pocket_99 rfl ?_
      refine hV.iconst (v := 1) dX5_pocket_100 (by decide) ?_
      refine hV.iload_n 4 dX5_pocket_101 rfl ?_
      refine hV.callV1 (rest := []) dX5_pocket_102 (c_X5_put G (p := p) (w := 1) (by omega) (by omega)) my_X5_put kv_X5_31 M_o rfl rfl rfl (Nat.le_of_ble_eq_true rfl) (Nat.le_of_ble_eq_true rfl) (Nat.le_of_ble_eq_true rfl) (Nat.le_of_ble_eq_true rfl) (Nat.le_of_ble_eq_true rfl) (st2 := []) (k2 := 0) (g2 := 0) rfl rfl rfl ?_
      refine zHeap (h2 := setM h b (va_up (va_up φ 0 0) 1 (nI (recK k))) (sa (sa μ 2 (recF (μ 2) (μ 0) k)) 0 (va_up (va_up (va_up (μ 0) (132 + 5 * p + 2) 0) (132 + 5 * p) q) (132 + 5 * p + 1) w))) (by rw [sa_z]; rfl) ?_
      refine hV.iload 0 dX5_pocket_105 rfl ?_
      exact hE.1 dX5_pocket_107 rfl rfl (by decide) (by decide) (zRi rfl (by unfold pocZ; simp [sa_z, c65_1, c75_2]) rfl)
  · refine hV.icmp_ne_t (tgt := 87) dX5_pocket_65 (by decide) c65_1 ?_
    refine hV.iconst (v := 0) dX5_pocket_87 (by decide) ?_
    refine hV.callV1 (rest := []) dX5_pocket_88 (c_X5_put G (p := p) (w := 2) (by omega) (by omega)) my_X5_put kv_X5_31 M_o rfl rfl rfl (Nat.le_of_ble_eq_true rfl) (Nat.le_of_ble_eq_true rfl) (Nat.le_of_ble_eq_true rfl) (Nat.le_of_ble_eq_true rfl) (Nat.le_of_ble_eq_true rfl) (st2 := []) (k2 := 0) (g2 := 0) rfl rfl rfl ?_
    refine zHeap (h2 := setM h b (va_up (va_up φ 0 0) 1 (nI (recK k))) (sa (sa μ 2 (recF (μ 2) (μ 0) k)) 0 (va_up (μ 0) (132 + 5 * p + 2) 0))) rfl ?_
    refine hV.aload_n 1 dX5_pocket_91 rfl ?_
    refine hV.iload_n 2 dX5_pocket_92 rfl ?_
    refine hV.iconst (v := 0) dX5_pocket_93 (by decide) ?_
    refine hV.iload_n 3 dX5_pocket_94 rfl ?_
    refine hV.callV1 (rest := []) dX5_pocket_95 (c_X5_put G (p := p) (w := 0) (by omega) (by omega)) my_X5_put kv_X5_31 M_o rfl rfl rfl (Nat.le_of_ble_eq_true rfl) (Nat.le_of_ble_eq_true rfl) (Nat.le_of_ble_eq_true rfl) (Nat.le_of_ble_eq_true rfl) (Nat.le_of_ble_eq_true rfl) (st2 := []) (k2 := 0) (g2 := 0) rfl rfl rfl ?_
    refine zHeap (h2 := setM h b (va_up (va_up φ 0 0) 1 (nI (recK k))) (sa (sa μ 2 (recF (μ 2) (μ 0) k)) 0 (va_up (va_up (μ 0) (132 + 5 * p + 2) 0) (132 + 5 * p) q))) (by rw [sa_z]; rfl) ?_
    refine hV.aload_n 1 dX5_pocket_98 rfl ?_
    refine hV.iload_n 2 dX5_pocket_99 rfl ?_
    refine hV.iconst (v := 1) dX5_pocket_100 (by decide) ?_
    refine hV.iload_n 4 dX5_pocket_101 rfl ?_
    refine hV.callV1 (rest := []) dX5_pocket_102 (c_X5_put G (p := p) (w := 1) (by omega) (by omega)) my_X5_put kv_X5_31 M_o rfl rfl rfl (Nat.le_of_ble_eq_true rfl) (Nat.le_of_ble_eq_true rfl) (Nat.le_of_ble_eq_true rfl) (Nat.le_of_ble_eq_true rfl) (Nat.le_of_ble_eq_true rfl) (st2 := []) (k2 := 0) (g2 := 0) rfl rfl rfl ?_
    refine zHeap (h2 := setM h b (va_up (va_up φ 0 0) 1 (nI (recK k))) (sa (sa μ 2 (recF (μ 2) (μ 0) k)) 0 (va_up (va_up (va_up (μ 0) (132 + 5 * p + 2) 0) (132 + 5 * p) q) (132 + 5 * p + 1) w))) (by rw [sa_z]; rfl) ?_
    refine hV.iload 0 dX5_pocket_105 rfl ?_
    exact hE.1 dX5_pocket_107 rfl rfl (by decide) (by decide) (zRi rfl (by unfold pocZ; simp [sa_z, c65_1]) rfl)

set_option maxRecDepth 100000 in
set_option maxHeartbeats 4000000 in
theorem c_X5_start_x1 {l : Launch} {D : va_G} {base : Nat} (G : l.stackTraces = false) {h : zH} {n : Nat} {b : Nat} {μ : zB} {φ : Nat → Int32} {v : Int32} (f0 : (inV v 0 6) = 0) :
    zCt l D base 9 yX5_start w_X5_start [.ref b, .int v] (setM h b φ μ) n 0 0 (zR (some (.int 0)) (setM h b (va_up φ 0 1) μ) n) := by
  refine zCt.of G (by decide) (Nat.le_of_ble_eq_true rfl) (fun Sx V X hV hE hX => ?_)
  show V 0 [(0, .ref b), (1, .int v)] [] (setM h b φ μ) n 0 0
  refine hV.aload_n 0 dX5_start_0 rfl ?_
  refine hV.iload_n 1 dX5_start_1 rfl ?_
  refine hV.callS1 (rest := [.ref b]) dX5_start_2 (c_X5_isColumn G) my_X5_isColumn ks_X5_61 rfl rfl (Nat.le_of_ble_eq_true rfl) (Nat.le_of_ble_eq_true rfl) (Nat.le_of_ble_eq_true rfl) (Nat.le_of_ble_eq_true rfl) (Nat.le_of_ble_eq_true rfl) (st2 := [.int (inV v 0 6), .ref b]) (k2 := 0) (g2 := 0) rfl rfl rfl ?_
  refine hV.if_eq_t (tgt := 12) dX5_start_5 (by decide) f0 ?_
  refine hV.iconst (v := 1) dX5_start_12 (by decide) ?_
  refine hV.putf dX5_start_13 fp_X5_35 M_o (Nat.le_of_ble_eq_true rfl) rfl rfl M_f0 ?_
  refine hV.aload_n 0 dX5_start_16 rfl ?_
  refine hV.getf (v := .int 1) dX5_start_17 fl_X5_35 M_o rfl ?_
  refine hV.if_le_f (tgt := 27) dX5_start_20 (by decide) (by decide) ?_
  refine hV.iconst (v := 0) dX5_start_23 (by decide) ?_
  refine hV.goto (tgt := 34) dX5_start_24 (by decide) ?_
  exact hE.1 dX5_start_34 rfl rfl (by decide) (by decide) (zRi rfl rfl rfl)

set_option maxRecDepth 100000 in
set_option maxHeartbeats 4000000 in
theorem c_X5_start {l : Launch} {D : va_G} {base : Nat} (G : l.stackTraces = false) {h : zH} {n : Nat} {b : Nat} {μ : zB} {φ : Nat → Int32} {k : Nat} (hk : φ 1 = nI k) (hk6 : k ≤ 6) {v : Int32} (f0 : ¬ (inV v 0 6) = 0) :
    zCt l D base 9 yX5_start w_X5_start [.ref b, .int v] (setM h b φ μ) n 0 0 (zR (some (.int (μ 0 13))) (setM h b (va_up (va_up φ 0 0) 1 (nI (recK k))) (sa (sa μ 2 (recF (μ 2) (μ 0) k)) 0 (va_up (μ 0) 13 v))) n) := by
  refine zCt.of G (by decide) (Nat.le_of_ble_eq_true rfl) (fun Sx V X hV hE hX => ?_)
  show V 0 [(0, .ref b), (1, .int v)] [] (setM h b φ μ) n 0 0
  refine hV.aload_n 0 dX5_start_0 rfl ?_
  refine hV.iload_n 1 dX5_start_1 rfl ?_
  refine hV.callS1 (rest := [.ref b]) dX5_start_2 (c_X5_isColumn G) my_X5_isColumn ks_X5_61 rfl rfl (Nat.le_of_ble_eq_true rfl) (Nat.le_of_ble_eq_true rfl) (Nat.le_of_ble_eq_true rfl) (Nat.le_of_ble_eq_true rfl) (Nat.le_of_ble_eq_true rfl) (st2 := [.int (inV v 0 6), .ref b]) (k2 := 0) (g2 := 0) rfl rfl rfl ?_
  refine hV.if_eq_f (tgt := 12) dX5_start_5 (by decide) f0 ?_
  refine hV.iconst (v := 0) dX5_start_8 (by decide) ?_
  refine hV.goto (tgt := 13) dX5_start_9 (by decide) ?_
  refine hV.putf dX5_start_13 fp_X5_35 M_o (Nat.le_of_ble_eq_true rfl) rfl rfl M_f0 ?_
  refine hV.aload_n 0 dX5_start_16 rfl ?_
  refine hV.getf (v := .int 0) dX5_start_17 fl_X5_35 M_o rfl ?_
  refine hV.if_le_t (tgt := 27) dX5_start_20 (by decide) (by decide) ?_
  refine hV.aload_n 0 dX5_start_27 rfl ?_
  refine hV.bipush (v := 13) dX5_start_28 (by decide) ?_
  refine hV.iload_n 1 dX5_start_30 rfl ?_
  refine hV.callV1 (rest := []) dX5_start_31 (c_X5_change G (k := k) (i := 13) (by exact hk) hk6 (by omega)) my_X5_change kv_X5_72 M_o rfl rfl rfl (Nat.le_of_ble_eq_true rfl) (Nat.le_of_ble_eq_true rfl) (Nat.le_of_ble_eq_true rfl) (Nat.le_of_ble_eq_true rfl) (Nat.le_of_ble_eq_true rfl) (st2 := [.int ((μ 0) 13)]) (k2 := 0) (g2 := 0) rfl rfl rfl ?_
  refine zHeap (h2 := setM h b (va_up (va_up φ 0 0) 1 (nI (recK k))) (sa (sa μ 2 (recF (μ 2) (μ 0) k)) 0 (va_up (μ 0) 13 v))) rfl ?_
  exact hE.1 dX5_start_34 rfl rfl (by decide) (by decide) (zRi rfl rfl rfl)

set_option maxRecDepth 100000 in
set_option maxHeartbeats 4000000 in
theorem c_X5_set_x1 {l : Launch} {D : va_G} {base : Nat} (G : l.stackTraces = false) {h : zH} {n : Nat} {b : Nat} {μ : zB} {φ : Nat → Int32} {i v : Int32} (f0 : (inV i 0 1) = 0) :
    zCt l D base 9 yX5_set w_X5_set [.ref b, .int i, .int v] (setM h b φ μ) n 0 0 (zR (some (.int 0)) (setM h b (va_up φ 0 1) μ) n) := by
  refine zCt.of G (by decide) (Nat.le_of_ble_eq_true rfl) (fun Sx V X hV hE hX => ?_)
  show V 0 [(0, .ref b), (1, .int i), (2, .int v)] [] (setM h b φ μ) n 0 0
  refine hV.aload_n 0 dX5_set_0 rfl ?_
  refine hV.iload_n 1 dX5_set_1 rfl ?_
  refine hV.iconst (v := 0) dX5_set_2 (by decide) ?_
  refine hV.iconst (v := 1) dX5_set_3 (by decide) ?_
  refine hV.callS1 (rest := [.ref b]) dX5_set_4 (c_X5_in G) my_X5_in ks_X5_39 rfl rfl (Nat.le_of_ble_eq_true rfl) (Nat.le_of_ble_eq_true rfl) (Nat.le_of_ble_eq_true rfl) (Nat.le_of_ble_eq_true rfl) (Nat.le_of_ble_eq_true rfl) (st2 := [.int (inV i 0 1), .ref b]) (k2 := 0) (g2 := 0) rfl rfl rfl ?_
  refine hV.if_ne_f (tgt := 14) dX5_set_7 (by decide) f0 ?_
  refine hV.iconst (v := 1) dX5_set_10 (by decide) ?_
  refine hV.goto (tgt := 51) dX5_set_11 (by decide) ?_
  refine hV.putf dX5_set_51 fp_X5_35 M_o (Nat.le_of_ble_eq_true rfl) rfl rfl M_f0 ?_
  refine hV.aload_n 0 dX5_set_54 rfl ?_
  refine hV.getf (v := .int 1) dX5_set_55 fl_X5_35 M_o rfl ?_
  refine hV.if_le_f (tgt := 65) dX5_set_58 (by decide) (by decide) ?_
  refine hV.iconst (v := 0) dX5_set_61 (by decide) ?_
  refine hV.goto (tgt := 74) dX5_set_62 (by decide) ?_
  exact hE.1 dX5_set_74 rfl rfl (by decide) (by decide) (zRi rfl rfl rfl)

set_option maxRecDepth 100000 in
set_option maxHeartbeats 4000000 in
theorem c_X5_set_x2 {l : Launch} {D : va_G} {base : Nat} (G : l.stackTraces = false) {h : zH} {n : Nat} {b : Nat} {μ : zB} {φ : Nat → Int32} {i v : Int32} (f0 : ¬ (inV i 0 1) = 0) (f1 : i = 0) (f2 : (inV v 1 10) = 0) :
    zCt l D base 9 yX5_set w_X5_set [.ref b, .int i, .int v] (setM h b φ μ) n 0 0 (zR (some (.int 0)) (setM h b (va_up φ 0 2) μ) n) := by
  refine zCt.of G (by decide) (Nat.le_of_ble_eq_true rfl) (fun Sx V X hV hE hX => ?_)
  show V 0 [(0, .ref b), (1, .int i), (2, .int v)] [] (setM h b φ μ) n 0 0
  refine hV.aload_n 0 dX5_set_0 rfl ?_
  refine hV.iload_n 1 dX5_set_1 rfl ?_
  refine hV.iconst (v := 0) dX5_set_2 (by decide) ?_
  refine hV.iconst (v := 1) dX5_set_3 (by decide) ?_
  refine hV.callS1 (rest := [.ref b]) dX5_set_4 (c_X5_in G) my_X5_in ks_X5_39 rfl rfl (Nat.le_of_ble_eq_true rfl) (Nat.le_of_ble_eq_true rfl) (Nat.le_of_ble_eq_true rfl) (Nat.le_of_ble_eq_true rfl) (Nat.le_of_ble_eq_true rfl) (st2 := [.int (inV i 0 1), .ref b]) (k2 := 0) (g2 := 0) rfl rfl rfl ?_
  refine hV.if_ne_t (tgt := 14) dX5_set_7 (by decide) f0 ?_
  refine hV.iload_n 1 dX5_set_14 rfl ?_
  refine hV.if_ne_f (tgt := 36) dX5_set_15 (by decide) f1 ?_
  refine hV.iload_n 2 dX5_set_18 rfl ?_
  refine hV.iconst (v := 1) dX5_set_19 (by decide) ?_
  refine hV.bipush (v := 10) dX5_set_20 (by decide) ?_
  refine hV.callS1 (rest := [.ref b]) dX5_set_22 (c_X5_in G) my_X5_in ks_X5_39 rfl rfl (Nat.le_of_ble_eq_true rfl) (Nat.le_of_ble_eq_true rfl) (Nat.le_of_ble_eq_true rfl) (Nat.le_of_ble_eq_true rfl) (Nat.le_of_ble_eq_true rfl) (st2 := [.int (inV v 1 10), .ref b]) (k2 := 0) (g2 := 0) rfl rfl rfl ?_
  refine hV.if_eq_t (tgt := 32) dX5_set_25 (by decide) f2 ?_
  refine hV.iconst (v := 2) dX5_set_32 (by decide) ?_
  refine hV.goto (tgt := 51) dX5_set_33 (by decide) ?_
  refine hV.putf dX5_set_51 fp_X5_35 M_o (Nat.le_of_ble_eq_true rfl) rfl rfl M_f0 ?_
  refine hV.aload_n 0 dX5_set_54 rfl ?_
  refine hV.getf (v := .int 2) dX5_set_55 fl_X5_35 M_o rfl ?_
  refine hV.if_le_f (tgt := 65) dX5_set_58 (by decide) (by decide) ?_
  refine hV.iconst (v := 0) dX5_set_61 (by decide) ?_
  refine hV.goto (tgt := 74) dX5_set_62 (by decide) ?_
  exact hE.1 dX5_set_74 rfl rfl (by decide) (by decide) (zRi rfl rfl rfl)

set_option maxRecDepth 100000 in
set_option maxHeartbeats 4000000 in
theorem c_X5_set_x3 {l : Launch} {D : va_G} {base : Nat} (G : l.stackTraces = false) {h : zH} {n : Nat} {b : Nat} {μ : zB} {φ : Nat → Int32} {i v : Int32} (f0 : ¬ (inV i 0 1) = 0) (f1 : ¬ i = 0) (f2 : (inV v 0 20) = 0) :
    zCt l D base 9 yX5_set w_X5_set [.ref b, .int i, .int v] (setM h b φ μ) n 0 0 (zR (some (.int 0)) (setM h b (va_up φ 0 2) μ) n) := by
  refine zCt.of G (by decide) (Nat.le_of_ble_eq_true rfl) (fun Sx V X hV hE hX => ?_)
  show V 0 [(0, .ref b), (1, .int i), (2, .int v)] [] (setM h b φ μ) n 0 0
  refine hV.aload_n 0 dX5_set_0 rfl ?_
  refine hV.iload_n 1 dX5_set_1 rfl ?_
  refine hV.iconst (v := 0) dX5_set_2 (by decide) ?_
  refine hV.iconst (v := 1) dX5_set_3 (by decide) ?_
  refine hV.callS1 (rest := [.ref b]) dX5_set_4 (c_X5_in G) my_X5_in ks_X5_39 rfl rfl (Nat.le_of_ble_eq_true rfl) (Nat.le_of_ble_eq_true rfl) (Nat.le_of_ble_eq_true rfl) (Nat.le_of_ble_eq_true rfl) (Nat.le_of_ble_eq_true rfl) (st2 := [.int (inV i 0 1), .ref b]) (k2 := 0) (g2 := 0) rfl rfl rfl ?_
  refine hV.if_ne_t (tgt := 14) dX5_set_7 (by decide) f0 ?_
  refine hV.iload_n 1 dX5_set_14 rfl ?_
  refine hV.if_ne_t (tgt := 36) dX5_set_15 (by decide) f1 ?_
  refine hV.iload_n 2 dX5_set_36 rfl ?_
  refine hV.iconst (v := 0) dX5_set_37 (by decide) ?_
  refine hV.bipush (v := 20) dX5_set_38 (by decide) ?_
  refine hV.callS1 (rest := [.ref b]) dX5_set_40 (c_X5_in G) my_X5_in ks_X5_39 rfl rfl (Nat.le_of_ble_eq_true rfl) (Nat.le_of_ble_eq_true rfl) (Nat.le_of_ble_eq_true rfl) (Nat.le_of_ble_eq_true rfl) (Nat.le_of_ble_eq_true rfl) (st2 := [.int (inV v 0 20), .ref b]) (k2 := 0) (g2 := 0) rfl rfl rfl ?_
  refine hV.if_eq_t (tgt := 50) dX5_set_43 (by decide) f2 ?_
  refine hV.iconst (v := 2) dX5_set_50 (by decide) ?_
  refine hV.putf dX5_set_51 fp_X5_35 M_o (Nat.le_of_ble_eq_true rfl) rfl rfl M_f0 ?_
  refine hV.aload_n 0 dX5_set_54 rfl ?_
  refine hV.getf (v := .int 2) dX5_set_55 fl_X5_35 M_o rfl ?_
  refine hV.if_le_f (tgt := 65) dX5_set_58 (by decide) (by decide) ?_
  refine hV.iconst (v := 0) dX5_set_61 (by decide) ?_
  refine hV.goto (tgt := 74) dX5_set_62 (by decide) ?_
  exact hE.1 dX5_set_74 rfl rfl (by decide) (by decide) (zRi rfl rfl rfl)

set_option maxRecDepth 100000 in
set_option maxHeartbeats 4000000 in
theorem c_X5_set_0 {l : Launch} {D : va_G} {base : Nat} (G : l.stackTraces = false) {h : zH} {n : Nat} {b : Nat} {μ : zB} {φ : Nat → Int32} {k : Nat} (hk : φ 1 = nI k) (hk6 : k ≤ 6) {v : Int32} (f1 : ¬ (inV v 1 10) = 0) :
    zCt l D base 9 yX5_set w_X5_set [.ref b, .int 0, .int v] (setM h b φ μ) n 0 0 (zR (some (.int (μ 0 14))) (setM h b (va_up (va_up φ 0 0) 1 (nI (recK k))) (sa (sa μ 2 (recF (μ 2) (μ 0) k)) 0 (va_up (μ 0) 14 v))) n) := by
  refine zCt.of G (by decide) (Nat.le_of_ble_eq_true rfl) (fun Sx V X hV hE hX => ?_)
  show V 0 [(0, .ref b), (1, .int 0), (2, .int v)] [] (setM h b φ μ) n 0 0
  have f0 : ¬ (inV 0 0 1) = 0 := (by decide)
  refine hV.aload_n 0 dX5_set_0 rfl ?_
  refine hV.iload_n 1 dX5_set_1 rfl ?_
  refine hV.iconst (v := 0) dX5_set_2 (by decide) ?_
  refine hV.iconst (v := 1) dX5_set_3 (by decide) ?_
  refine hV.callS1 (rest := [.ref b]) dX5_set_4 (c_X5_in G) my_X5_in ks_X5_39 rfl rfl (Nat.le_of_ble_eq_true rfl) (Nat.le_of_ble_eq_true rfl) (Nat.le_of_ble_eq_true rfl) (Nat.le_of_ble_eq_true rfl) (Nat.le_of_ble_eq_true rfl) (st2 := [.int (inV 0 0 1), .ref b]) (k2 := 0) (g2 := 0) rfl rfl rfl ?_
  refine hV.if_ne_t (tgt := 14) dX5_set_7 (by decide) f0 ?_
  refine hV.iload_n 1 dX5_set_14 rfl ?_
  refine hV.if_ne_f (tgt := 36) dX5_set_15 (by decide) (by decide) ?_
  refine hV.iload_n 2 dX5_set_18 rfl ?_
  refine hV.iconst (v := 1) dX5_set_19 (by decide) ?_
  refine hV.bipush (v := 10) dX5_set_20 (by decide) ?_
  refine hV.callS1 (rest := [.ref b]) dX5_set_22 (c_X5_in G) my_X5_in ks_X5_39 rfl rfl (Nat.le_of_ble_eq_true rfl) (Nat.le_of_ble_eq_true rfl) (Nat.le_of_ble_eq_true rfl) (Nat.le_of_ble_eq_true rfl) (Nat.le_of_ble_eq_true rfl) (st2 := [.int (inV v 1 10), .ref b]) (k2 := 0) (g2 := 0) rfl rfl rfl ?_
  refine hV.if_eq_f (tgt := 32) dX5_set_25 (by decide) f1 ?_
  refine hV.iconst (v := 0) dX5_set_28 (by decide) ?_
  refine hV.goto (tgt := 51) dX5_set_29 (by decide) ?_
  refine hV.putf dX5_set_51 fp_X5_35 M_o (Nat.le_of_ble_eq_true rfl) rfl rfl M_f0 ?_
  refine hV.aload_n 0 dX5_set_54 rfl ?_
  refine hV.getf (v := .int 0) dX5_set_55 fl_X5_35 M_o rfl ?_
  refine hV.if_le_t (tgt := 65) dX5_set_58 (by decide) (by decide) ?_
  refine hV.aload_n 0 dX5_set_65 rfl ?_
  refine hV.bipush (v := 14) dX5_set_66 (by decide) ?_
  refine hV.iload_n 1 dX5_set_68 rfl ?_
  refine hV.iadd dX5_set_69 ?_
  refine zTop (v := 14) (by decide) ?_
  refine hV.iload_n 2 dX5_set_70 rfl ?_
  refine hV.callV1 (rest := []) dX5_set_71 (c_X5_change G (k := k) (i := 14) (by exact hk) hk6 (by omega)) my_X5_change kv_X5_72 M_o rfl rfl rfl (Nat.le_of_ble_eq_true rfl) (Nat.le_of_ble_eq_true rfl) (Nat.le_of_ble_eq_true rfl) (Nat.le_of_ble_eq_true rfl) (Nat.le_of_ble_eq_true rfl) (st2 := [.int ((μ 0) 14)]) (k2 := 0) (g2 := 0) rfl rfl rfl ?_
  refine zHeap (h2 := setM h b (va_up (va_up φ 0 0) 1 (nI (recK k))) (sa (sa μ 2 (recF (μ 2) (μ 0) k)) 0 (va_up (μ 0) 14 v))) rfl ?_
  exact hE.1 dX5_set_74 rfl rfl (by decide) (by decide) (zRi rfl rfl rfl)

set_option maxRecDepth 100000 in
set_option maxHeartbeats 4000000 in
theorem c_X5_set_1 {l : Launch} {D : va_G} {base : Nat} (G : l.stackTraces = false) {h : zH} {n : Nat} {b : Nat} {μ : zB} {φ : Nat → Int32} {k : Nat} (hk : φ 1 = nI k) (hk6 : k ≤ 6) {v : Int32} (f1 : ¬ (inV v 0 20) = 0) :
    zCt l D base 9 yX5_set w_X5_set [.ref b, .int 1, .int v] (setM h b φ μ) n 0 0 (zR (some (.int (μ 0 15))) (setM h b (va_up (va_up φ 0 0) 1 (nI (recK k))) (sa (sa μ 2 (recF (μ 2) (μ 0) k)) 0 (va_up (μ 0) 15 v))) n) := by
  refine zCt.of G (by decide) (Nat.le_of_ble_eq_true rfl) (fun Sx V X hV hE hX => ?_)
  show V 0 [(0, .ref b), (1, .int 1), (2, .int v)] [] (setM h b φ μ) n 0 0
  have f0 : ¬ (inV 1 0 1) = 0 := (by decide)
  refine hV.aload_n 0 dX5_set_0 rfl ?_
  refine hV.iload_n 1 dX5_set_1 rfl ?_
  refine hV.iconst (v := 0) dX5_set_2 (by decide) ?_
  refine hV.iconst (v := 1) dX5_set_3 (by decide) ?_
  refine hV.callS1 (rest := [.ref b]) dX5_set_4 (c_X5_in G) my_X5_in ks_X5_39 rfl rfl (Nat.le_of_ble_eq_true rfl) (Nat.le_of_ble_eq_true rfl) (Nat.le_of_ble_eq_true rfl) (Nat.le_of_ble_eq_true rfl) (Nat.le_of_ble_eq_true rfl) (st2 := [.int (inV 1 0 1), .ref b]) (k2 := 0) (g2 := 0) rfl rfl rfl ?_
  refine hV.if_ne_t (tgt := 14) dX5_set_7 (by decide) f0 ?_
  refine hV.iload_n 1 dX5_set_14 rfl ?_
  refine hV.if_ne_t (tgt := 36) dX5_set_15 (by decide) (by decide) ?_
  refine hV.iload_n 2 dX5_set_36 rfl ?_
  refine hV.iconst (v := 0) dX5_set_37 (by decide) ?_
  refine hV.bipush (v := 20) dX5_set_38 (by decide) ?_
  refine hV.callS1 (rest := [.ref b]) dX5_set_40 (c_X5_in G) my_X5_in ks_X5_39 rfl rfl (Nat.le_of_ble_eq_true rfl) (Nat.le_of_ble_eq_true rfl) (Nat.le_of_ble_eq_true rfl) (Nat.le_of_ble_eq_true rfl) (Nat.le_of_ble_eq_true rfl) (st2 := [.int (inV v 0 20), .ref b]) (k2 := 0) (g2 := 0) rfl rfl rfl ?_
  refine hV.if_eq_f (tgt := 50) dX5_set_43 (by decide) f1 ?_
  refine hV.iconst (v := 0) dX5_set_46 (by decide) ?_
  refine hV.goto (tgt := 51) dX5_set_47 (by decide) ?_
  refine hV.putf dX5_set_51 fp_X5_35 M_o (Nat.le_of_ble_eq_true rfl) rfl rfl M_f0 ?_
  refine hV.aload_n 0 dX5_set_54 rfl ?_
  refine hV.getf (v := .int 0) dX5_set_55 fl_X5_35 M_o rfl ?_
  refine hV.if_le_t (tgt := 65) dX5_set_58 (by decide) (by decide) ?_
  refine hV.aload_n 0 dX5_set_65 rfl ?_
  refine hV.bipush (v := 14) dX5_set_66 (by decide) ?_
  refine hV.iload_n 1 dX5_set_68 rfl ?_
  refine hV.iadd dX5_set_69 ?_
  refine zTop (v := 15) (by decide) ?_
  refine hV.iload_n 2 dX5_set_70 rfl ?_
  refine hV.callV1 (rest := []) dX5_set_71 (c_X5_change G (k := k) (i := 15) (by exact hk) hk6 (by omega)) my_X5_change kv_X5_72 M_o rfl rfl rfl (Nat.le_of_ble_eq_true rfl) (Nat.le_of_ble_eq_true rfl) (Nat.le_of_ble_eq_true rfl) (Nat.le_of_ble_eq_true rfl) (Nat.le_of_ble_eq_true rfl) (st2 := [.int ((μ 0) 15)]) (k2 := 0) (g2 := 0) rfl rfl rfl ?_
  refine zHeap (h2 := setM h b (va_up (va_up φ 0 0) 1 (nI (recK k))) (sa (sa μ 2 (recF (μ 2) (μ 0) k)) 0 (va_up (μ 0) 15 v))) rfl ?_
  exact hE.1 dX5_set_74 rfl rfl (by decide) (by decide) (zRi rfl rfl rfl)

set_option maxRecDepth 100000 in
set_option maxHeartbeats 4000000 in
theorem c_X5_shuffle_x1 {l : Launch} {D : va_G} {base : Nat} (G : l.stackTraces = false) {h : zH} {n : Nat} {b : Nat} {μ : zB} {φ : Nat → Int32} {v : Int32} (f0 : ¬ 0 ≤ v) :
    zCt l D base 9 yX5_shuffle w_X5_shuffle [.ref b, .int v] (setM h b φ μ) n 0 0 (zR (some (.int 0)) (setM h b (va_up φ 0 1) μ) n) := by
  refine zCt.of G (by decide) (Nat.le_of_ble_eq_true rfl) (fun Sx V X hV hE hX => ?_)
  show V 0 [(0, .ref b), (1, .int v)] [] (setM h b φ μ) n 0 0
  refine hV.aload_n 0 dX5_shuffle_0 rfl ?_
  refine hV.iload_n 1 dX5_shuffle_1 rfl ?_
  refine hV.if_ge_f (tgt := 9) dX5_shuffle_2 (by decide) f0 ?_
  refine hV.iconst (v := 1) dX5_shuffle_5 (by decide) ?_
  refine hV.goto (tgt := 10) dX5_shuffle_6 (by decide) ?_
  refine hV.putf dX5_shuffle_10 fp_X5_35 M_o (Nat.le_of_ble_eq_true rfl) rfl rfl M_f0 ?_
  refine hV.aload_n 0 dX5_shuffle_13 rfl ?_
  refine hV.getf (v := .int 1) dX5_shuffle_14 fl_X5_35 M_o rfl ?_
  refine hV.if_le_f (tgt := 24) dX5_shuffle_17 (by decide) (by decide) ?_
  refine hV.iconst (v := 0) dX5_shuffle_20 (by decide) ?_
  refine hV.goto (tgt := 30) dX5_shuffle_21 (by decide) ?_
  exact hE.1 dX5_shuffle_30 rfl rfl (by decide) (by decide) (zRi rfl rfl rfl)

set_option maxRecDepth 100000 in
set_option maxHeartbeats 4000000 in
theorem c_X5_shuffle {l : Launch} {D : va_G} {base : Nat} (G : l.stackTraces = false) {h : zH} {n : Nat} {b : Nat} {μ : zB} {φ : Nat → Int32} {k : Nat} (hk : φ 1 = nI k) (hk6 : k ≤ 6) {v : Int32} (f0 : 0 ≤ v) :
    zCt l D base 9 yX5_shuffle w_X5_shuffle [.ref b, .int v] (setM h b φ μ) n 0 0 (zR (some (.int (μ 0 0))) (setM h b (va_up (va_up φ 0 0) 1 (nI (recK k))) (sa (sa μ 2 (recF (μ 2) (μ 0) k)) 0 (va_up (μ 0) 0 v))) n) := by
  refine zCt.of G (by decide) (Nat.le_of_ble_eq_true rfl) (fun Sx V X hV hE hX => ?_)
  show V 0 [(0, .ref b), (1, .int v)] [] (setM h b φ μ) n 0 0
  refine hV.aload_n 0 dX5_shuffle_0 rfl ?_
  refine hV.iload_n 1 dX5_shuffle_1 rfl ?_
  refine hV.if_ge_t (tgt := 9) dX5_shuffle_2 (by decide) f0 ?_
  refine hV.iconst (v := 0) dX5_shuffle_9 (by decide) ?_
  refine hV.putf dX5_shuffle_10 fp_X5_35 M_o (Nat.le_of_ble_eq_true rfl) rfl rfl M_f0 ?_
  refine hV.aload_n 0 dX5_shuffle_13 rfl ?_
  refine hV.getf (v := .int 0) dX5_shuffle_14 fl_X5_35 M_o rfl ?_
  refine hV.if_le_t (tgt := 24) dX5_shuffle_17 (by decide) (by decide) ?_
  refine hV.aload_n 0 dX5_shuffle_24 rfl ?_
  refine hV.iconst (v := 0) dX5_shuffle_25 (by decide) ?_
  refine hV.iload_n 1 dX5_shuffle_26 rfl ?_
  refine hV.callV1 (rest := []) dX5_shuffle_27 (c_X5_change G (k := k) (i := 0) (by exact hk) hk6 (by omega)) my_X5_change kv_X5_72 M_o rfl rfl rfl (Nat.le_of_ble_eq_true rfl) (Nat.le_of_ble_eq_true rfl) (Nat.le_of_ble_eq_true rfl) (Nat.le_of_ble_eq_true rfl) (Nat.le_of_ble_eq_true rfl) (st2 := [.int ((μ 0) 0)]) (k2 := 0) (g2 := 0) rfl rfl rfl ?_
  refine zHeap (h2 := setM h b (va_up (va_up φ 0 0) 1 (nI (recK k))) (sa (sa μ 2 (recF (μ 2) (μ 0) k)) 0 (va_up (μ 0) 0 v))) rfl ?_
  exact hE.1 dX5_shuffle_30 rfl rfl (by decide) (by decide) (zRi rfl rfl rfl)

set_option maxRecDepth 100000 in
set_option maxHeartbeats 4000000 in
theorem c_X5_buy_x1 {l : Launch} {D : va_G} {base : Nat} (G : l.stackTraces = false) {h : zH} {n : Nat} {b : Nat} {μ : zB} {φ : Nat → Int32} {v : Int32} (f0 : (inV v 1 99) = 0) :
    zCt l D base 9 yX5_buy w_X5_buy [.ref b, .int v] (setM h b φ μ) n 0 0 (zR (some (.int 0)) (setM h b (va_up φ 0 1) μ) n) := by
  refine zCt.of G (by decide) (Nat.le_of_ble_eq_true rfl) (fun Sx V X hV hE hX => ?_)
  show V 0 [(0, .ref b), (1, .int v)] [] (setM h b φ μ) n 0 0
  refine hV.aload_n 0 dX5_buy_0 rfl ?_
  refine hV.iload_n 1 dX5_buy_1 rfl ?_
  refine hV.iconst (v := 1) dX5_buy_2 (by decide) ?_
  refine hV.bipush (v := 99) dX5_buy_3 (by decide) ?_
  refine hV.callS1 (rest := [.ref b]) dX5_buy_5 (c_X5_in G) my_X5_in ks_X5_39 rfl rfl (Nat.le_of_ble_eq_true rfl) (Nat.le_of_ble_eq_true rfl) (Nat.le_of_ble_eq_true rfl) (Nat.le_of_ble_eq_true rfl) (Nat.le_of_ble_eq_true rfl) (st2 := [.int (inV v 1 99), .ref b]) (k2 := 0) (g2 := 0) rfl rfl rfl ?_
  refine hV.if_eq_t (tgt := 15) dX5_buy_8 (by decide) f0 ?_
  refine hV.iconst (v := 1) dX5_buy_15 (by decide) ?_
  refine hV.putf dX5_buy_16 fp_X5_35 M_o (Nat.le_of_ble_eq_true rfl) rfl rfl M_f0 ?_
  refine hV.aload_n 0 dX5_buy_19 rfl ?_
  refine hV.getf (v := .int 1) dX5_buy_20 fl_X5_35 M_o rfl ?_
  refine hV.if_le_f (tgt := 28) dX5_buy_23 (by decide) (by decide) ?_
  refine hV.iconst (v := 0) dX5_buy_26 (by decide) ?_
  exact hE.1 dX5_buy_27 rfl rfl (by decide) (by decide) (zRi rfl rfl rfl)

set_option maxRecDepth 100000 in
set_option maxHeartbeats 4000000 in
theorem c_X5_buy {l : Launch} {D : va_G} {base : Nat} (G : l.stackTraces = false) {h : zH} {n : Nat} {b : Nat} {μ : zB} {φ : Nat → Int32} {k : Nat} (hk : φ 1 = nI k) (hk6 : k ≤ 6) {v : Int32} (f0 : ¬ (inV v 1 99) = 0) :
    zCt l D base 9 yX5_buy w_X5_buy [.ref b, .int v] (setM h b φ μ) n 0 0 (zR (some (.int (μ 0 1 + v))) (setM h b (va_up (va_up φ 0 0) 1 (nI (recK k))) (sa (sa μ 2 (recF (μ 2) (μ 0) k)) 0 (buyZ (μ 0) v))) n) := by
  refine zCt.of G (by decide) (Nat.le_of_ble_eq_true rfl) (fun Sx V X hV hE hX => ?_)
  show V 0 [(0, .ref b), (1, .int v)] [] (setM h b φ μ) n 0 0
  refine hV.aload_n 0 dX5_buy_0 rfl ?_
  refine hV.iload_n 1 dX5_buy_1 rfl ?_
  refine hV.iconst (v := 1) dX5_buy_2 (by decide) ?_
  refine hV.bipush (v := 99) dX5_buy_3 (by decide) ?_
  refine hV.callS1 (rest := [.ref b]) dX5_buy_5 (c_X5_in G) my_X5_in ks_X5_39 rfl rfl (Nat.le_of_ble_eq_true rfl) (Nat.le_of_ble_eq_true rfl) (Nat.le_of_ble_eq_true rfl) (Nat.le_of_ble_eq_true rfl) (Nat.le_of_ble_eq_true rfl) (st2 := [.int (inV v 1 99), .ref b]) (k2 := 0) (g2 := 0) rfl rfl rfl ?_
  refine hV.if_eq_f (tgt := 15) dX5_buy_8 (by decide) f0 ?_
  refine hV.iconst (v := 0) dX5_buy_11 (by decide) ?_
  refine hV.goto (tgt := 16) dX5_buy_12 (by decide) ?_
  refine hV.putf dX5_buy_16 fp_X5_35 M_o (Nat.le_of_ble_eq_true rfl) rfl rfl M_f0 ?_
  refine hV.aload_n 0 dX5_buy_19 rfl ?_
  refine hV.getf (v := .int 0) dX5_buy_20 fl_X5_35 M_o rfl ?_
  refine hV.if_le_t (tgt := 28) dX5_buy_23 (by decide) (by decide) ?_
  refine hV.aload_n 0 dX5_buy_28 rfl ?_
  refine hV.callV1 (rest := []) dX5_buy_29 (c_X5_record G (k := k) (by exact hk) hk6) my_X5_record kv_X5_50 M_o rfl rfl rfl (Nat.le_of_ble_eq_true rfl) (Nat.le_of_ble_eq_true rfl) (Nat.le_of_ble_eq_true rfl) (Nat.le_of_ble_eq_true rfl) (Nat.le_of_ble_eq_true rfl) (st2 := []) (k2 := 0) (g2 := 0) rfl rfl rfl ?_
  refine zHeap (h2 := setM h b (va_up (va_up φ 0 0) 1 (nI (recK k))) (sa μ 2 (recF (μ 2) (μ 0) k))) rfl ?_
  refine hV.aload_n 0 dX5_buy_32 rfl ?_
  refine hV.iload_n 1 dX5_buy_33 rfl ?_
  refine hV.callV1 (rest := []) dX5_buy_34 (c_X5_doBuy G) my_X5_doBuy kv_X5_100 M_o rfl rfl rfl (Nat.le_of_ble_eq_true rfl) (Nat.le_of_ble_eq_true rfl) (Nat.le_of_ble_eq_true rfl) (Nat.le_of_ble_eq_true rfl) (Nat.le_of_ble_eq_true rfl) (st2 := [.int ((μ 0) 1 + v)]) (k2 := 0) (g2 := 0) rfl rfl rfl ?_
  refine zHeap (h2 := setM h b (va_up (va_up φ 0 0) 1 (nI (recK k))) (sa (sa μ 2 (recF (μ 2) (μ 0) k)) 0 (buyZ (μ 0) v))) rfl ?_
  exact hE.1 dX5_buy_37 rfl rfl (by decide) (by decide) (zRi rfl rfl rfl)

set_option maxRecDepth 100000 in
set_option maxHeartbeats 4000000 in
theorem c_X5_launch_x1 {l : Launch} {D : va_G} {base : Nat} (G : l.stackTraces = false) {h : zH} {n : Nat} {b : Nat} {μ : zB} {φ : Nat → Int32} {v : Int32} (f0 : (inV v 0 6) = 0) :
    zCt l D base 9 yX5_launch w_X5_launch [.ref b, .int v] (setM h b φ μ) n 0 0 (zR (some (.int 0)) (setM h b (va_up φ 0 1) μ) n) := by
  refine zCt.of G (by decide) (Nat.le_of_ble_eq_true rfl) (fun Sx V X hV hE hX => ?_)
  show V 0 [(0, .ref b), (1, .int v)] [] (setM h b φ μ) n 0 0
  refine hV.aload_n 0 dX5_launch_0 rfl ?_
  refine hV.iload_n 1 dX5_launch_1 rfl ?_
  refine hV.callS1 (rest := [.ref b]) dX5_launch_2 (c_X5_isColumn G) my_X5_isColumn ks_X5_61 rfl rfl (Nat.le_of_ble_eq_true rfl) (Nat.le_of_ble_eq_true rfl) (Nat.le_of_ble_eq_true rfl) (Nat.le_of_ble_eq_true rfl) (Nat.le_of_ble_eq_true rfl) (st2 := [.int (inV v 0 6), .ref b]) (k2 := 0) (g2 := 0) rfl rfl rfl ?_
  refine hV.if_ne_f (tgt := 12) dX5_launch_5 (by decide) f0 ?_
  refine hV.iconst (v := 1) dX5_launch_8 (by decide) ?_
  refine hV.goto (tgt := 26) dX5_launch_9 (by decide) ?_
  refine hV.putf dX5_launch_26 fp_X5_35 M_o (Nat.le_of_ble_eq_true rfl) rfl rfl M_f0 ?_
  refine hV.aload_n 0 dX5_launch_29 rfl ?_
  refine hV.getf (v := .int 1) dX5_launch_30 fl_X5_35 M_o rfl ?_
  refine hV.if_le_f (tgt := 38) dX5_launch_33 (by decide) (by decide) ?_
  refine hV.iconst (v := 0) dX5_launch_36 (by decide) ?_
  exact hE.1 dX5_launch_37 rfl rfl (by decide) (by decide) (zRi rfl rfl rfl)

set_option maxRecDepth 100000 in
set_option maxHeartbeats 4000000 in
theorem c_X5_launch_x2 {l : Launch} {D : va_G} {base : Nat} (G : l.stackTraces = false) {h : zH} {n : Nat} {b : Nat} {μ : zB} {φ : Nat → Int32} {v : Int32} (f0 : ¬ (inV v 0 6) = 0) (f1 : (μ 0 1) = 0) :
    zCt l D base 9 yX5_launch w_X5_launch [.ref b, .int v] (setM h b φ μ) n 0 0 (zR (some (.int 0)) (setM h b (va_up φ 0 2) μ) n) := by
  refine zCt.of G (by decide) (Nat.le_of_ble_eq_true rfl) (fun Sx V X hV hE hX => ?_)
  show V 0 [(0, .ref b), (1, .int v)] [] (setM h b φ μ) n 0 0
  refine hV.aload_n 0 dX5_launch_0 rfl ?_
  refine hV.iload_n 1 dX5_launch_1 rfl ?_
  refine hV.callS1 (rest := [.ref b]) dX5_launch_2 (c_X5_isColumn G) my_X5_isColumn ks_X5_61 rfl rfl (Nat.le_of_ble_eq_true rfl) (Nat.le_of_ble_eq_true rfl) (Nat.le_of_ble_eq_true rfl) (Nat.le_of_ble_eq_true rfl) (Nat.le_of_ble_eq_true rfl) (st2 := [.int (inV v 0 6), .ref b]) (k2 := 0) (g2 := 0) rfl rfl rfl ?_
  refine hV.if_ne_t (tgt := 12) dX5_launch_5 (by decide) f0 ?_
  refine hV.aload_n 0 dX5_launch_12 rfl ?_
  refine hV.getf (v := .ref (b + 1)) dX5_launch_13 fl_X5_7 M_o rfl ?_
  refine hV.iconst (v := 1) dX5_launch_16 (by decide) ?_
  refine hV.iald (j := 1) dX5_launch_17 M_a0 ⟨by decide, by decide⟩ (by decide) ?_
  refine hV.if_ne_f (tgt := 25) dX5_launch_18 (by decide) f1 ?_
  refine hV.iconst (v := 2) dX5_launch_21 (by decide) ?_
  refine hV.goto (tgt := 26) dX5_launch_22 (by decide) ?_
  refine hV.putf dX5_launch_26 fp_X5_35 M_o (Nat.le_of_ble_eq_true rfl) rfl rfl M_f0 ?_
  refine hV.aload_n 0 dX5_launch_29 rfl ?_
  refine hV.getf (v := .int 2) dX5_launch_30 fl_X5_35 M_o rfl ?_
  refine hV.if_le_f (tgt := 38) dX5_launch_33 (by decide) (by decide) ?_
  refine hV.iconst (v := 0) dX5_launch_36 (by decide) ?_
  exact hE.1 dX5_launch_37 rfl rfl (by decide) (by decide) (zRi rfl rfl rfl)

set_option maxRecDepth 100000 in
set_option maxHeartbeats 4000000 in
theorem c_X5_launch {l : Launch} {D : va_G} {base : Nat} (G : l.stackTraces = false) {h : zH} {n : Nat} {b : Nat} {μ : zB} {φ : Nat → Int32} {k : Nat} (hk : φ 1 = nI k) (hk6 : k ≤ 6) (hx0 : xOk (μ 0)) (hp0 : pinZ (μ 0)) {c : Nat} (hc : c < 7) (f1 : ¬ (μ 0 1) = 0) :
    zCt l D base 9 yX5_launch w_X5_launch [.ref b, .int (nI c)] (setM h b φ μ) n 0 0 (zR (some (.int (lchZ (μ 0) c 12))) (setM h b (va_up (va_up φ 0 0) 1 (nI (recK k))) (sa (sa μ 2 (recF (μ 2) (μ 0) k)) 0 (lchZ (μ 0) c))) n) := by
  refine zCt.of G (by decide) (Nat.le_of_ble_eq_true rfl) (fun Sx V X hV hE hX => ?_)
  show V 0 [(0, .ref b), (1, .int (nI c))] [] (setM h b φ μ) n 0 0
  have f0 : ¬ (inV (nI c) 0 6) = 0 := (inV_T (inV_c6 hc))
  refine hV.aload_n 0 dX5_launch_0 rfl ?_
  refine hV.iload_n 1 dX5_launch_1 rfl ?_
  refine hV.callS1 (rest := [.ref b]) dX5_launch_2 (c_X5_isColumn G) my_X5_isColumn ks_X5_61 rfl rfl (Nat.le_of_ble_eq_true rfl) (Nat.le_of_ble_eq_true rfl) (Nat.le_of_ble_eq_true rfl) (Nat.le_of_ble_eq_true rfl) (Nat.le_of_ble_eq_true rfl) (st2 := [.int (inV (nI c) 0 6), .ref b]) (k2 := 0) (g2 := 0) rfl rfl rfl ?_
  refine hV.if_ne_t (tgt := 12) dX5_launch_5 (by decide) f0 ?_
  refine hV.aload_n 0 dX5_launch_12 rfl ?_
  refine hV.getf (v := .ref (b + 1)) dX5_launch_13 fl_X5_7 M_o rfl ?_
  refine hV.iconst (v := 1) dX5_launch_16 (by decide) ?_
  refine hV.iald (j := 1) dX5_launch_17 M_a0 ⟨by decide, by decide⟩ (by decide) ?_
  refine hV.if_ne_t (tgt := 25) dX5_launch_18 (by decide) f1 ?_
  refine hV.iconst (v := 0) dX5_launch_25 (by decide) ?_
  refine hV.putf dX5_launch_26 fp_X5_35 M_o (Nat.le_of_ble_eq_true rfl) rfl rfl M_f0 ?_
  refine hV.aload_n 0 dX5_launch_29 rfl ?_
  refine hV.getf (v := .int 0) dX5_launch_30 fl_X5_35 M_o rfl ?_
  refine hV.if_le_t (tgt := 38) dX5_launch_33 (by decide) (by decide) ?_
  refine hV.aload_n 0 dX5_launch_38 rfl ?_
  refine hV.callV1 (rest := []) dX5_launch_39 (c_X5_record G (k := k) (by exact hk) hk6) my_X5_record kv_X5_50 M_o rfl rfl rfl (Nat.le_of_ble_eq_true rfl) (Nat.le_of_ble_eq_true rfl) (Nat.le_of_ble_eq_true rfl) (Nat.le_of_ble_eq_true rfl) (Nat.le_of_ble_eq_true rfl) (st2 := []) (k2 := 0) (g2 := 0) rfl rfl rfl ?_
  refine zHeap (h2 := setM h b (va_up (va_up φ 0 0) 1 (nI (recK k))) (sa μ 2 (recF (μ 2) (μ 0) k))) rfl ?_
  refine hV.aload_n 0 dX5_launch_42 rfl ?_
  refine hV.iload_n 1 dX5_launch_43 rfl ?_
  refine hV.callV1 (rest := []) dX5_launch_44 (c_X5_doLaunch G (c := c) (by omega) hx0 hp0) my_X5_doLaunch kv_X5_103 M_o rfl rfl rfl (Nat.le_of_ble_eq_true rfl) (Nat.le_of_ble_eq_true rfl) (Nat.le_of_ble_eq_true rfl) (Nat.le_of_ble_eq_true rfl) (Nat.le_of_ble_eq_true rfl) (st2 := [.int (lchZr (μ 0) c)]) (k2 := 0) (g2 := 0) rfl rfl rfl ?_
  refine zHeap (h2 := setM h b (va_up (va_up φ 0 0) 1 (nI (recK k))) (sa (sa μ 2 (recF (μ 2) (μ 0) k)) 0 (lchZ (μ 0) c))) rfl ?_
  refine hV.pop dX5_launch_47 rfl ?_
  refine hV.aload_n 0 dX5_launch_48 rfl ?_
  refine hV.getf (v := .ref (b + 1)) dX5_launch_49 fl_X5_7 M_o rfl ?_
  refine hV.bipush (v := 12) dX5_launch_52 (by decide) ?_
  refine hV.iald (j := 12) dX5_launch_54 M_a0 ⟨by decide, by decide⟩ (by decide) ?_
  refine zTop (v := (lchZ (μ 0) c) 12) (congrFun (sa_at _ _ _) _) ?_
  exact hE.1 dX5_launch_55 rfl rfl (by decide) (by decide) (zRi rfl rfl rfl)

set_option maxRecDepth 100000 in
set_option maxHeartbeats 4000000 in
theorem c_X5_play_x1 {l : Launch} {D : va_G} {base : Nat} (G : l.stackTraces = false) {h : zH} {n : Nat} {b : Nat} {μ : zB} {φ : Nat → Int32} {v m : Int32} (f0 : (inV v 0 6) = 0) :
    zCt l D base 9 yX5_play w_X5_play [.ref b, .int v, .int m] (setM h b φ μ) n 0 0 (zR (some (.int 0)) (setM h b (va_up φ 0 1) μ) n) := by
  refine zCt.of G (by decide) (Nat.le_of_ble_eq_true rfl) (fun Sx V X hV hE hX => ?_)
  show V 0 [(0, .ref b), (1, .int v), (2, .int m)] [] (setM h b φ μ) n 0 0
  refine hV.aload_n 0 dX5_play_0 rfl ?_
  refine hV.iload_n 1 dX5_play_1 rfl ?_
  refine hV.callS1 (rest := [.ref b]) dX5_play_2 (c_X5_isColumn G) my_X5_isColumn ks_X5_61 rfl rfl (Nat.le_of_ble_eq_true rfl) (Nat.le_of_ble_eq_true rfl) (Nat.le_of_ble_eq_true rfl) (Nat.le_of_ble_eq_true rfl) (Nat.le_of_ble_eq_true rfl) (st2 := [.int (inV v 0 6), .ref b]) (k2 := 0) (g2 := 0) rfl rfl rfl ?_
  refine hV.if_ne_f (tgt := 12) dX5_play_5 (by decide) f0 ?_
  refine hV.iconst (v := 1) dX5_play_8 (by decide) ?_
  refine hV.goto (tgt := 27) dX5_play_9 (by decide) ?_
  refine hV.putf dX5_play_27 fp_X5_35 M_o (Nat.le_of_ble_eq_true rfl) rfl rfl M_f0 ?_
  refine hV.aload_n 0 dX5_play_30 rfl ?_
  refine hV.getf (v := .int 1) dX5_play_31 fl_X5_35 M_o rfl ?_
  refine hV.if_le_f (tgt := 39) dX5_play_34 (by decide) (by decide) ?_
  refine hV.iconst (v := 0) dX5_play_37 (by decide) ?_
  exact hE.1 dX5_play_38 rfl rfl (by decide) (by decide) (zRi rfl rfl rfl)

set_option maxRecDepth 100000 in
set_option maxHeartbeats 4000000 in
theorem c_X5_play_x2 {l : Launch} {D : va_G} {base : Nat} (G : l.stackTraces = false) {h : zH} {n : Nat} {b : Nat} {μ : zB} {φ : Nat → Int32} {v m : Int32} (f0 : ¬ (inV v 0 6) = 0) (f1 : (inV m 1 30) = 0) :
    zCt l D base 9 yX5_play w_X5_play [.ref b, .int v, .int m] (setM h b φ μ) n 0 0 (zR (some (.int 0)) (setM h b (va_up φ 0 2) μ) n) := by
  refine zCt.of G (by decide) (Nat.le_of_ble_eq_true rfl) (fun Sx V X hV hE hX => ?_)
  show V 0 [(0, .ref b), (1, .int v), (2, .int m)] [] (setM h b φ μ) n 0 0
  refine hV.aload_n 0 dX5_play_0 rfl ?_
  refine hV.iload_n 1 dX5_play_1 rfl ?_
  refine hV.callS1 (rest := [.ref b]) dX5_play_2 (c_X5_isColumn G) my_X5_isColumn ks_X5_61 rfl rfl (Nat.le_of_ble_eq_true rfl) (Nat.le_of_ble_eq_true rfl) (Nat.le_of_ble_eq_true rfl) (Nat.le_of_ble_eq_true rfl) (Nat.le_of_ble_eq_true rfl) (st2 := [.int (inV v 0 6), .ref b]) (k2 := 0) (g2 := 0) rfl rfl rfl ?_
  refine hV.if_ne_t (tgt := 12) dX5_play_5 (by decide) f0 ?_
  refine hV.iload_n 2 dX5_play_12 rfl ?_
  refine hV.iconst (v := 1) dX5_play_13 (by decide) ?_
  refine hV.bipush (v := 30) dX5_play_14 (by decide) ?_
  refine hV.callS1 (rest := [.ref b]) dX5_play_16 (c_X5_in G) my_X5_in ks_X5_39 rfl rfl (Nat.le_of_ble_eq_true rfl) (Nat.le_of_ble_eq_true rfl) (Nat.le_of_ble_eq_true rfl) (Nat.le_of_ble_eq_true rfl) (Nat.le_of_ble_eq_true rfl) (st2 := [.int (inV m 1 30), .ref b]) (k2 := 0) (g2 := 0) rfl rfl rfl ?_
  refine hV.if_eq_t (tgt := 26) dX5_play_19 (by decide) f1 ?_
  refine hV.iconst (v := 2) dX5_play_26 (by decide) ?_
  refine hV.putf dX5_play_27 fp_X5_35 M_o (Nat.le_of_ble_eq_true rfl) rfl rfl M_f0 ?_
  refine hV.aload_n 0 dX5_play_30 rfl ?_
  refine hV.getf (v := .int 2) dX5_play_31 fl_X5_35 M_o rfl ?_
  refine hV.if_le_f (tgt := 39) dX5_play_34 (by decide) (by decide) ?_
  refine hV.iconst (v := 0) dX5_play_37 (by decide) ?_
  exact hE.1 dX5_play_38 rfl rfl (by decide) (by decide) (zRi rfl rfl rfl)

set_option maxRecDepth 100000 in
set_option maxHeartbeats 4000000 in
theorem c_X5_play {l : Launch} {D : va_G} {base : Nat} (G : l.stackTraces = false) {h : zH} {n : Nat} {b : Nat} {μ : zB} {φ : Nat → Int32} {k : Nat} (hk : φ 1 = nI k) (hk6 : k ≤ 6) (hx0 : xOk (μ 0)) (hp0 : pinZ (μ 0)) {c m : Nat} (hc : c < 7) (hm1 : 1 ≤ m) (hm : m ≤ 30) :
    zCt l D base 9 yX5_play w_X5_play [.ref b, .int (nI c), .int (nI m)] (setM h b φ μ) n 0 0 (zR (some (.int ((plZ c m (μ 0, 0)).2))) (setM h b (va_up (va_up φ 0 0) 1 (nI (recK k))) (sa (sa μ 2 (recF (μ 2) (μ 0) k)) 0 ((plZ c m (μ 0, 0)).1))) n) := by
  refine zCt.of G (by decide) (Nat.le_of_ble_eq_true rfl) (fun Sx V X hV hE hX => ?_)
  show V 0 [(0, .ref b), (1, .int (nI c)), (2, .int (nI m))] [] (setM h b φ μ) n 0 0
  have f0 : ¬ (inV (nI c) 0 6) = 0 := (inV_T (inV_c6 hc))
  have f1 : ¬ (inV (nI m) 1 30) = 0 := (inV_T (inV_N (lo := 1) (hi := 30) hm1 hm (by decide)))
  refine hV.aload_n 0 dX5_play_0 rfl ?_
  refine hV.iload_n 1 dX5_play_1 rfl ?_
  refine hV.callS1 (rest := [.ref b]) dX5_play_2 (c_X5_isColumn G) my_X5_isColumn ks_X5_61 rfl rfl (Nat.le_of_ble_eq_true rfl) (Nat.le_of_ble_eq_true rfl) (Nat.le_of_ble_eq_true rfl) (Nat.le_of_ble_eq_true rfl) (Nat.le_of_ble_eq_true rfl) (st2 := [.int (inV (nI c) 0 6), .ref b]) (k2 := 0) (g2 := 0) rfl rfl rfl ?_
  refine hV.if_ne_t (tgt := 12) dX5_play_5 (by decide) f0 ?_
  refine hV.iload_n 2 dX5_play_12 rfl ?_
  refine hV.iconst (v := 1) dX5_play_13 (by decide) ?_
  refine hV.bipush (v := 30) dX5_play_14 (by decide) ?_
  refine hV.callS1 (rest := [.ref b]) dX5_play_16 (c_X5_in G) my_X5_in ks_X5_39 rfl rfl (Nat.le_of_ble_eq_true rfl) (Nat.le_of_ble_eq_true rfl) (Nat.le_of_ble_eq_true rfl) (Nat.le_of_ble_eq_true rfl) (Nat.le_of_ble_eq_true rfl) (st2 := [.int (inV (nI m) 1 30), .ref b]) (k2 := 0) (g2 := 0) rfl rfl rfl ?_
  refine hV.if_eq_f (tgt := 26) dX5_play_19 (by decide) f1 ?_
  refine hV.iconst (v := 0) dX5_play_22 (by decide) ?_
  refine hV.goto (tgt := 27) dX5_play_23 (by decide) ?_
  refine hV.putf dX5_play_27 fp_X5_35 M_o (Nat.le_of_ble_eq_true rfl) rfl rfl M_f0 ?_
  refine hV.aload_n 0 dX5_play_30 rfl ?_
  refine hV.getf (v := .int 0) dX5_play_31 fl_X5_35 M_o rfl ?_
  refine hV.if_le_t (tgt := 39) dX5_play_34 (by decide) (by decide) ?_
  refine hV.aload_n 0 dX5_play_39 rfl ?_
  refine hV.callV1 (rest := []) dX5_play_40 (c_X5_record G (k := k) (by exact hk) hk6) my_X5_record kv_X5_50 M_o rfl rfl rfl (Nat.le_of_ble_eq_true rfl) (Nat.le_of_ble_eq_true rfl) (Nat.le_of_ble_eq_true rfl) (Nat.le_of_ble_eq_true rfl) (Nat.le_of_ble_eq_true rfl) (st2 := []) (k2 := 0) (g2 := 0) rfl rfl rfl ?_
  refine zHeap (h2 := setM h b (va_up (va_up φ 0 0) 1 (nI (recK k))) (sa μ 2 (recF (μ 2) (μ 0) k))) rfl ?_
  refine hV.aload_n 0 dX5_play_43 rfl ?_
  refine hV.iload_n 1 dX5_play_44 rfl ?_
  refine hV.iload_n 2 dX5_play_45 rfl ?_
  refine hV.callV1 (rest := []) dX5_play_46 (c_X5_doPlay G (c := c) (k := m) (by omega) (by omega) hx0 hp0) my_X5_doPlay kv_X5_106 M_o rfl rfl rfl (Nat.le_of_ble_eq_true rfl) (Nat.le_of_ble_eq_true rfl) (Nat.le_of_ble_eq_true rfl) (Nat.le_of_ble_eq_true rfl) (Nat.le_of_ble_eq_true rfl) (st2 := [.int ((plZ c m (μ 0, 0)).2)]) (k2 := 0) (g2 := 0) rfl rfl rfl ?_
  refine zHeap (h2 := setM h b (va_up (va_up φ 0 0) 1 (nI (recK k))) (sa (sa μ 2 (recF (μ 2) (μ 0) k)) 0 ((plZ c m (μ 0, 0)).1))) rfl ?_
  exact hE.1 dX5_play_49 rfl rfl (by decide) (by decide) (zRi rfl rfl rfl)

set_option maxRecDepth 100000 in
set_option maxHeartbeats 4000000 in
theorem c_X5_append_x1 {l : Launch} {D : va_G} {base : Nat} (G : l.stackTraces = false) {h : zH} {n : Nat} {b : Nat} {μ : zB} {φ : Nat → Int32} {v : Int32} (f0 : (inV v 33 126) = 0) :
    zCt l D base 9 yX5_append w_X5_append [.ref b, .int v] (setM h b φ μ) n 0 0 (zR (some (.int 0)) (setM h b (va_up φ 0 1) μ) n) := by
  refine zCt.of G (by decide) (Nat.le_of_ble_eq_true rfl) (fun Sx V X hV hE hX => ?_)
  show V 0 [(0, .ref b), (1, .int v)] [] (setM h b φ μ) n 0 0
  refine hV.aload_n 0 dX5_append_0 rfl ?_
  refine hV.iload_n 1 dX5_append_1 rfl ?_
  refine hV.bipush (v := 33) dX5_append_2 (by decide) ?_
  refine hV.bipush (v := 126) dX5_append_4 (by decide) ?_
  refine hV.callS1 (rest := [.ref b]) dX5_append_6 (c_X5_in G) my_X5_in ks_X5_39 rfl rfl (Nat.le_of_ble_eq_true rfl) (Nat.le_of_ble_eq_true rfl) (Nat.le_of_ble_eq_true rfl) (Nat.le_of_ble_eq_true rfl) (Nat.le_of_ble_eq_true rfl) (st2 := [.int (inV v 33 126), .ref b]) (k2 := 0) (g2 := 0) rfl rfl rfl ?_
  refine hV.if_ne_f (tgt := 16) dX5_append_9 (by decide) f0 ?_
  refine hV.iconst (v := 1) dX5_append_12 (by decide) ?_
  refine hV.goto (tgt := 30) dX5_append_13 (by decide) ?_
  refine hV.putf dX5_append_30 fp_X5_35 M_o (Nat.le_of_ble_eq_true rfl) rfl rfl M_f0 ?_
  refine hV.aload_n 0 dX5_append_33 rfl ?_
  refine hV.getf (v := .int 1) dX5_append_34 fl_X5_35 M_o rfl ?_
  refine hV.if_le_f (tgt := 42) dX5_append_37 (by decide) (by decide) ?_
  refine hV.iconst (v := 0) dX5_append_40 (by decide) ?_
  exact hE.1 dX5_append_41 rfl rfl (by decide) (by decide) (zRi rfl rfl rfl)

set_option maxRecDepth 100000 in
set_option maxHeartbeats 4000000 in
theorem c_X5_append_x2 {l : Launch} {D : va_G} {base : Nat} (G : l.stackTraces = false) {h : zH} {n : Nat} {b : Nat} {μ : zB} {φ : Nat → Int32} {L : Nat} (hL : φ 3 = nI L) (hL2 : L ≤ 60) {v : Int32} (f0 : ¬ (inV v 33 126) = 0) (f1 : L = 60) :
    zCt l D base 9 yX5_append w_X5_append [.ref b, .int v] (setM h b φ μ) n 0 0 (zR (some (.int 0)) (setM h b (va_up φ 0 2) μ) n) := by
  refine zCt.of G (by decide) (Nat.le_of_ble_eq_true rfl) (fun Sx V X hV hE hX => ?_)
  show V 0 [(0, .ref b), (1, .int v)] [] (setM h b φ μ) n 0 0
  refine hV.aload_n 0 dX5_append_0 rfl ?_
  refine hV.iload_n 1 dX5_append_1 rfl ?_
  refine hV.bipush (v := 33) dX5_append_2 (by decide) ?_
  refine hV.bipush (v := 126) dX5_append_4 (by decide) ?_
  refine hV.callS1 (rest := [.ref b]) dX5_append_6 (c_X5_in G) my_X5_in ks_X5_39 rfl rfl (Nat.le_of_ble_eq_true rfl) (Nat.le_of_ble_eq_true rfl) (Nat.le_of_ble_eq_true rfl) (Nat.le_of_ble_eq_true rfl) (Nat.le_of_ble_eq_true rfl) (st2 := [.int (inV v 33 126), .ref b]) (k2 := 0) (g2 := 0) rfl rfl rfl ?_
  refine hV.if_ne_t (tgt := 16) dX5_append_9 (by decide) f0 ?_
  refine hV.aload_n 0 dX5_append_16 rfl ?_
  refine hV.getf (v := .int (φ 3)) dX5_append_17 fl_X5_109 M_o rfl ?_
  refine zTop (v := nI L) hL ?_
  refine hV.bipush (v := 60) dX5_append_20 (by decide) ?_
  refine hV.icmp_ne_f (tgt := 29) dX5_append_22 (by decide) ((nI_eq (a := L) (b := 60) (by omega) (by omega)).mpr f1) ?_
  refine hV.iconst (v := 2) dX5_append_25 (by decide) ?_
  refine hV.goto (tgt := 30) dX5_append_26 (by decide) ?_
  refine hV.putf dX5_append_30 fp_X5_35 M_o (Nat.le_of_ble_eq_true rfl) rfl rfl M_f0 ?_
  refine hV.aload_n 0 dX5_append_33 rfl ?_
  refine hV.getf (v := .int 2) dX5_append_34 fl_X5_35 M_o rfl ?_
  refine hV.if_le_f (tgt := 42) dX5_append_37 (by decide) (by decide) ?_
  refine hV.iconst (v := 0) dX5_append_40 (by decide) ?_
  exact hE.1 dX5_append_41 rfl rfl (by decide) (by decide) (zRi rfl rfl rfl)

set_option maxRecDepth 100000 in
set_option maxHeartbeats 4000000 in
theorem c_X5_append {l : Launch} {D : va_G} {base : Nat} (G : l.stackTraces = false) {h : zH} {n : Nat} {b : Nat} {μ : zB} {φ : Nat → Int32} {L : Nat} (hL : φ 3 = nI L) (hL2 : L ≤ 60) {v : Int32} (f0 : ¬ (inV v 33 126) = 0) (f1 : ¬ L = 60) :
    zCt l D base 9 yX5_append w_X5_append [.ref b, .int v] (setM h b φ μ) n 0 0 (zR (some (.int (nI (L + 1)))) (setM h b (va_up (va_up φ 0 0) 3 (nI (L + 1))) (sa μ 4 (va_up (μ 4) L v))) n) := by
  refine zCt.of G (by decide) (Nat.le_of_ble_eq_true rfl) (fun Sx V X hV hE hX => ?_)
  show V 0 [(0, .ref b), (1, .int v)] [] (setM h b φ μ) n 0 0
  refine hV.aload_n 0 dX5_append_0 rfl ?_
  refine hV.iload_n 1 dX5_append_1 rfl ?_
  refine hV.bipush (v := 33) dX5_append_2 (by decide) ?_
  refine hV.bipush (v := 126) dX5_append_4 (by decide) ?_
  refine hV.callS1 (rest := [.ref b]) dX5_append_6 (c_X5_in G) my_X5_in ks_X5_39 rfl rfl (Nat.le_of_ble_eq_true rfl) (Nat.le_of_ble_eq_true rfl) (Nat.le_of_ble_eq_true rfl) (Nat.le_of_ble_eq_true rfl) (Nat.le_of_ble_eq_true rfl) (st2 := [.int (inV v 33 126), .ref b]) (k2 := 0) (g2 := 0) rfl rfl rfl ?_
  refine hV.if_ne_t (tgt := 16) dX5_append_9 (by decide) f0 ?_
  refine hV.aload_n 0 dX5_append_16 rfl ?_
  refine hV.getf (v := .int (φ 3)) dX5_append_17 fl_X5_109 M_o rfl ?_
  refine zTop (v := nI L) hL ?_
  refine hV.bipush (v := 60) dX5_append_20 (by decide) ?_
  refine hV.icmp_ne_t (tgt := 29) dX5_append_22 (by decide) (fun q => absurd ((nI_eq (a := L) (b := 60) (by omega) (by omega)).mp q) f1) ?_
  refine hV.iconst (v := 0) dX5_append_29 (by decide) ?_
  refine hV.putf dX5_append_30 fp_X5_35 M_o (Nat.le_of_ble_eq_true rfl) rfl rfl M_f0 ?_
  refine hV.aload_n 0 dX5_append_33 rfl ?_
  refine hV.getf (v := .int 0) dX5_append_34 fl_X5_35 M_o rfl ?_
  refine hV.if_le_t (tgt := 42) dX5_append_37 (by decide) (by decide) ?_
  refine hV.aload_n 0 dX5_append_42 rfl ?_
  refine hV.getf (v := .ref (b + 5)) dX5_append_43 fl_X5_22 M_o rfl ?_
  refine hV.aload_n 0 dX5_append_46 rfl ?_
  refine hV.getf (v := .int (φ 3)) dX5_append_47 fl_X5_109 M_o rfl ?_
  refine zTop (v := nI L) hL ?_
  refine hV.iload_n 1 dX5_append_50 rfl ?_
  refine hV.iast (j := L) dX5_append_51 M_a4 (zix_nI (by omega)) (by omega) M_p4 ?_
  refine hV.aload_n 0 dX5_append_52 rfl ?_
  refine hV.dup dX5_append_53 rfl ?_
  refine hV.getf (v := .int (φ 3)) dX5_append_54 fl_X5_109 M_o rfl ?_
  refine zTop (v := nI L) hL ?_
  refine hV.iconst (v := 1) dX5_append_57 (by decide) ?_
  refine hV.iaddN (a := L) (b := 1) dX5_append_58 ?_
  refine hV.putf dX5_append_59 fp_X5_109 M_o (Nat.le_of_ble_eq_true rfl) rfl rfl M_f3 ?_
  refine hV.aload_n 0 dX5_append_62 rfl ?_
  refine hV.getf (v := .int (nI (L + 1))) dX5_append_63 fl_X5_109 M_o rfl ?_
  exact hE.1 dX5_append_66 rfl rfl (by decide) (by decide) (zRi rfl (by simp only [up2_sa]) rfl)

set_option maxRecDepth 100000 in
set_option maxHeartbeats 4000000 in
theorem c_X5_clearBuffer {l : Launch} {D : va_G} {base : Nat} (G : l.stackTraces = false) {h : zH} {n : Nat} {b : Nat} {μ : zB} {φ : Nat → Int32} :
    zCt l D base 9 yX5_clearBuffer w_X5_clearBuffer [.ref b] (setM h b φ μ) n 0 0 (zR (some (.int (φ 3))) (setM h b (va_up (va_up φ 0 0) 3 0) μ) n) := by
  refine zCt.of G (by decide) (Nat.le_of_ble_eq_true rfl) (fun Sx V X hV hE hX => ?_)
  show V 0 [(0, .ref b)] [] (setM h b φ μ) n 0 0
  refine hV.aload_n 0 dX5_clearBuffer_0 rfl ?_
  refine hV.iconst (v := 0) dX5_clearBuffer_1 (by decide) ?_
  refine hV.putf dX5_clearBuffer_2 fp_X5_35 M_o (Nat.le_of_ble_eq_true rfl) rfl rfl M_f0 ?_
  refine hV.aload_n 0 dX5_clearBuffer_5 rfl ?_
  refine hV.getf (v := .int (φ 3)) dX5_clearBuffer_6 fl_X5_109 M_o rfl ?_
  refine hV.istore_n (ls2 := [(1, .int (φ 3)), (0, .ref b)]) dX5_clearBuffer_9 (by decide) rfl ?_
  refine hV.aload_n 1 dX5_clearBuffer_10 rfl ?_
  refine hV.iconst (v := 0) dX5_clearBuffer_11 (by decide) ?_
  refine hV.putf dX5_clearBuffer_12 fp_X5_109 M_o (Nat.le_of_ble_eq_true rfl) rfl rfl M_f3 ?_
  refine hV.iload_n 0 dX5_clearBuffer_15 rfl ?_
  exact hE.1 dX5_clearBuffer_16 rfl rfl (by decide) (by decide) (zRi rfl rfl rfl)

set_option maxRecDepth 100000 in
set_option maxHeartbeats 4000000 in
theorem c_X5_pin_x1 {l : Launch} {D : va_G} {base : Nat} (G : l.stackTraces = false) {h : zH} {n : Nat} {b : Nat} {μ : zB} {φ : Nat → Int32} {r c : Int32} (f0 : (inV r 0 7) = 0) :
    zCt l D base 9 yX5_pin w_X5_pin [.ref b, .int r, .int c] (setM h b φ μ) n 0 0 (zR (some (.int 0)) (setM h b (va_up φ 0 1) μ) n) := by
  refine zCt.of G (by decide) (Nat.le_of_ble_eq_true rfl) (fun Sx V X hV hE hX => ?_)
  show V 0 [(0, .ref b), (1, .int r), (2, .int c)] [] (setM h b φ μ) n 0 0
  refine hV.aload_n 0 dX5_pin_0 rfl ?_
  refine hV.iload_n 1 dX5_pin_1 rfl ?_
  refine hV.callS1 (rest := [.ref b]) dX5_pin_2 (c_X5_isRow G) my_X5_isRow ks_X5_57 rfl rfl (Nat.le_of_ble_eq_true rfl) (Nat.le_of_ble_eq_true rfl) (Nat.le_of_ble_eq_true rfl) (Nat.le_of_ble_eq_true rfl) (Nat.le_of_ble_eq_true rfl) (st2 := [.int (inV r 0 7), .ref b]) (k2 := 0) (g2 := 0) rfl rfl rfl ?_
  refine hV.if_eq_t (tgt := 19) dX5_pin_5 (by decide) f0 ?_
  refine hV.iconst (v := 1) dX5_pin_19 (by decide) ?_
  refine hV.putf dX5_pin_20 fp_X5_35 M_o (Nat.le_of_ble_eq_true rfl) rfl rfl M_f0 ?_
  refine hV.aload_n 0 dX5_pin_23 rfl ?_
  refine hV.getf (v := .int 1) dX5_pin_24 fl_X5_35 M_o rfl ?_
  refine hV.if_le_f (tgt := 34) dX5_pin_27 (by decide) (by decide) ?_
  refine hV.iconst (v := 0) dX5_pin_30 (by decide) ?_
  refine hV.goto (tgt := 46) dX5_pin_31 (by decide) ?_
  exact hE.1 dX5_pin_46 rfl rfl (by decide) (by decide) (zRi rfl rfl rfl)

set_option maxRecDepth 100000 in
set_option maxHeartbeats 4000000 in
theorem c_X5_pin_x2 {l : Launch} {D : va_G} {base : Nat} (G : l.stackTraces = false) {h : zH} {n : Nat} {b : Nat} {μ : zB} {φ : Nat → Int32} {r c : Int32} (f0 : ¬ (inV r 0 7) = 0) (f1 : (inV c 0 6) = 0) :
    zCt l D base 9 yX5_pin w_X5_pin [.ref b, .int r, .int c] (setM h b φ μ) n 0 0 (zR (some (.int 0)) (setM h b (va_up φ 0 1) μ) n) := by
  refine zCt.of G (by decide) (Nat.le_of_ble_eq_true rfl) (fun Sx V X hV hE hX => ?_)
  show V 0 [(0, .ref b), (1, .int r), (2, .int c)] [] (setM h b φ μ) n 0 0
  refine hV.aload_n 0 dX5_pin_0 rfl ?_
  refine hV.iload_n 1 dX5_pin_1 rfl ?_
  refine hV.callS1 (rest := [.ref b]) dX5_pin_2 (c_X5_isRow G) my_X5_isRow ks_X5_57 rfl rfl (Nat.le_of_ble_eq_true rfl) (Nat.le_of_ble_eq_true rfl) (Nat.le_of_ble_eq_true rfl) (Nat.le_of_ble_eq_true rfl) (Nat.le_of_ble_eq_true rfl) (st2 := [.int (inV r 0 7), .ref b]) (k2 := 0) (g2 := 0) rfl rfl rfl ?_
  refine hV.if_eq_f (tgt := 19) dX5_pin_5 (by decide) f0 ?_
  refine hV.iload_n 2 dX5_pin_8 rfl ?_
  refine hV.callS1 (rest := [.ref b]) dX5_pin_9 (c_X5_isColumn G) my_X5_isColumn ks_X5_61 rfl rfl (Nat.le_of_ble_eq_true rfl) (Nat.le_of_ble_eq_true rfl) (Nat.le_of_ble_eq_true rfl) (Nat.le_of_ble_eq_true rfl) (Nat.le_of_ble_eq_true rfl) (st2 := [.int (inV c 0 6), .ref b]) (k2 := 0) (g2 := 0) rfl rfl rfl ?_
  refine hV.if_eq_t (tgt := 19) dX5_pin_12 (by decide) f1 ?_
  refine hV.iconst (v := 1) dX5_pin_19 (by decide) ?_
  refine hV.putf dX5_pin_20 fp_X5_35 M_o (Nat.le_of_ble_eq_true rfl) rfl rfl M_f0 ?_
  refine hV.aload_n 0 dX5_pin_23 rfl ?_
  refine hV.getf (v := .int 1) dX5_pin_24 fl_X5_35 M_o rfl ?_
  refine hV.if_le_f (tgt := 34) dX5_pin_27 (by decide) (by decide) ?_
  refine hV.iconst (v := 0) dX5_pin_30 (by decide) ?_
  refine hV.goto (tgt := 46) dX5_pin_31 (by decide) ?_
  exact hE.1 dX5_pin_46 rfl rfl (by decide) (by decide) (zRi rfl rfl rfl)

set_option maxRecDepth 100000 in
set_option maxHeartbeats 4000000 in
theorem c_X5_pin {l : Launch} {D : va_G} {base : Nat} (G : l.stackTraces = false) {h : zH} {n : Nat} {b : Nat} {μ : zB} {φ : Nat → Int32} {r c : Nat} (hr : r < 8) (hc : c < 7) :
    zCt l D base 9 yX5_pin w_X5_pin [.ref b, .int (nI r), .int (nI c)] (setM h b φ μ) n 0 0 (zR (some (.int (μ 0 (20 + (7 * r + c)) + 1))) (setM h b (va_up φ 0 0) μ) n) := by
  refine zCt.of G (by decide) (Nat.le_of_ble_eq_true rfl) (fun Sx V X hV hE hX => ?_)
  show V 0 [(0, .ref b), (1, .int (nI r)), (2, .int (nI c))] [] (setM h b φ μ) n 0 0
  have f0 : ¬ (inV (nI r) 0 7) = 0 := (inV_T (inV_r7 hr))
  have f1 : ¬ (inV (nI c) 0 6) = 0 := (inV_T (inV_c6 hc))
  refine hV.aload_n 0 dX5_pin_0 rfl ?_
  refine hV.iload_n 1 dX5_pin_1 rfl ?_
  refine hV.callS1 (rest := [.ref b]) dX5_pin_2 (c_X5_isRow G) my_X5_isRow ks_X5_57 rfl rfl (Nat.le_of_ble_eq_true rfl) (Nat.le_of_ble_eq_true rfl) (Nat.le_of_ble_eq_true rfl) (Nat.le_of_ble_eq_true rfl) (Nat.le_of_ble_eq_true rfl) (st2 := [.int (inV (nI r) 0 7), .ref b]) (k2 := 0) (g2 := 0) rfl rfl rfl ?_
  refine hV.if_eq_f (tgt := 19) dX5_pin_5 (by decide) f0 ?_
  refine hV.iload_n 2 dX5_pin_8 rfl ?_
  refine hV.callS1 (rest := [.ref b]) dX5_pin_9 (c_X5_isColumn G) my_X5_isColumn ks_X5_61 rfl rfl (Nat.le_of_ble_eq_true rfl) (Nat.le_of_ble_eq_true rfl) (Nat.le_of_ble_eq_true rfl) (Nat.le_of_ble_eq_true rfl) (Nat.le_of_ble_eq_true rfl) (st2 := [.int (inV (nI c) 0 6), .ref b]) (k2 := 0) (g2 := 0) rfl rfl rfl ?_
  refine hV.if_eq_f (tgt := 19) dX5_pin_12 (by decide) f1 ?_
  refine hV.iconst (v := 0) dX5_pin_15 (by decide) ?_
  refine hV.goto (tgt := 20) dX5_pin_16 (by decide) ?_
  refine hV.putf dX5_pin_20 fp_X5_35 M_o (Nat.le_of_ble_eq_true rfl) rfl rfl M_f0 ?_
  refine hV.aload_n 0 dX5_pin_23 rfl ?_
  refine hV.getf (v := .int 0) dX5_pin_24 fl_X5_35 M_o rfl ?_
  refine hV.if_le_t (tgt := 34) dX5_pin_27 (by decide) (by decide) ?_
  refine hV.aload_n 0 dX5_pin_34 rfl ?_
  refine hV.bipush (v := 7) dX5_pin_35 (by decide) ?_
  refine hV.iload_n 1 dX5_pin_37 rfl ?_
  refine hV.imulN (a := 7) (b := r) dX5_pin_38 ?_
  refine hV.iload_n 2 dX5_pin_39 rfl ?_
  refine hV.iaddN (a := 7 * r) (b := c) dX5_pin_40 ?_
  refine hV.callV1 (rest := []) dX5_pin_41 (c_X5_lean G (i := (7 * r) + c) (by omega)) my_X5_lean kv_X5_53 M_o rfl rfl rfl (Nat.le_of_ble_eq_true rfl) (Nat.le_of_ble_eq_true rfl) (Nat.le_of_ble_eq_true rfl) (Nat.le_of_ble_eq_true rfl) (Nat.le_of_ble_eq_true rfl) (st2 := [.int ((μ 0) (20 + ((7 * r) + c)))]) (k2 := 0) (g2 := 0) rfl rfl rfl ?_
  refine hV.iconst (v := 1) dX5_pin_44 (by decide) ?_
  refine hV.iadd dX5_pin_45 ?_
  exact hE.1 dX5_pin_46 rfl rfl (by decide) (by decide) (zRi rfl rfl rfl)

set_option maxRecDepth 100000 in
set_option maxHeartbeats 4000000 in
theorem c_X5_bent_x1 {l : Launch} {D : va_G} {base : Nat} (G : l.stackTraces = false) {h : zH} {n : Nat} {b : Nat} {μ : zB} {φ : Nat → Int32} {v : Int32} (f0 : ¬ 0 ≤ v) :
    zCt l D base 9 yX5_bent w_X5_bent [.ref b, .int v] (setM h b φ μ) n 0 0 (zR (some (.int 0)) (setM h b (va_up φ 0 1) μ) n) := by
  refine zCt.of G (by decide) (Nat.le_of_ble_eq_true rfl) (fun Sx V X hV hE hX => ?_)
  show V 0 [(0, .ref b), (1, .int v)] [] (setM h b φ μ) n 0 0
  refine hV.aload_n 0 dX5_bent_0 rfl ?_
  refine hV.iload_n 1 dX5_bent_1 rfl ?_
  refine hV.if_ge_f (tgt := 9) dX5_bent_2 (by decide) f0 ?_
  refine hV.iconst (v := 1) dX5_bent_5 (by decide) ?_
  refine hV.goto (tgt := 10) dX5_bent_6 (by decide) ?_
  refine hV.putf dX5_bent_10 fp_X5_35 M_o (Nat.le_of_ble_eq_true rfl) rfl rfl M_f0 ?_
  refine hV.aload_n 0 dX5_bent_13 rfl ?_
  refine hV.getf (v := .int 1) dX5_bent_14 fl_X5_35 M_o rfl ?_
  refine hV.if_le_f (tgt := 24) dX5_bent_17 (by decide) (by decide) ?_
  refine hV.iconst (v := 0) dX5_bent_20 (by decide) ?_
  refine hV.goto (tgt := 29) dX5_bent_21 (by decide) ?_
  exact hE.1 dX5_bent_29 rfl rfl (by decide) (by decide) (zRi rfl rfl rfl)

set_option maxRecDepth 100000 in
set_option maxHeartbeats 4000000 in
theorem c_X5_bent {l : Launch} {D : va_G} {base : Nat} (G : l.stackTraces = false) {h : zH} {n : Nat} {b : Nat} {μ : zB} {φ : Nat → Int32} {v : Int32} (f0 : 0 ≤ v) :
    zCt l D base 9 yX5_bent w_X5_bent [.ref b, .int v] (setM h b φ μ) n 0 0 (zR (some (.int (baN (μ 0) v 56))) (setM h b (va_up φ 0 0) μ) n) := by
  refine zCt.of G (by decide) (Nat.le_of_ble_eq_true rfl) (fun Sx V X hV hE hX => ?_)
  show V 0 [(0, .ref b), (1, .int v)] [] (setM h b φ μ) n 0 0
  refine hV.aload_n 0 dX5_bent_0 rfl ?_
  refine hV.iload_n 1 dX5_bent_1 rfl ?_
  refine hV.if_ge_t (tgt := 9) dX5_bent_2 (by decide) f0 ?_
  refine hV.iconst (v := 0) dX5_bent_9 (by decide) ?_
  refine hV.putf dX5_bent_10 fp_X5_35 M_o (Nat.le_of_ble_eq_true rfl) rfl rfl M_f0 ?_
  refine hV.aload_n 0 dX5_bent_13 rfl ?_
  refine hV.getf (v := .int 0) dX5_bent_14 fl_X5_35 M_o rfl ?_
  refine hV.if_le_t (tgt := 24) dX5_bent_17 (by decide) (by decide) ?_
  refine hV.aload_n 0 dX5_bent_24 rfl ?_
  refine hV.iload_n 1 dX5_bent_25 rfl ?_
  refine hV.callV1 (rest := []) dX5_bent_26 (c_X5_bentAt G) my_X5_bentAt kv_X5_140 M_o rfl rfl rfl (Nat.le_of_ble_eq_true rfl) (Nat.le_of_ble_eq_true rfl) (Nat.le_of_ble_eq_true rfl) (Nat.le_of_ble_eq_true rfl) (Nat.le_of_ble_eq_true rfl) (st2 := [.int (baN (μ 0) v 56)]) (k2 := 0) (g2 := 0) rfl rfl rfl ?_
  exact hE.1 dX5_bent_29 rfl rfl (by decide) (by decide) (zRi rfl rfl rfl)

set_option maxRecDepth 100000 in
set_option maxHeartbeats 4000000 in
theorem c_X5_touched_x1 {l : Launch} {D : va_G} {base : Nat} (G : l.stackTraces = false) {h : zH} {n : Nat} {b : Nat} {μ : zB} {φ : Nat → Int32} {v : Int32} (f0 : (inV v 0 7) = 0) :
    zCt l D base 9 yX5_touched w_X5_touched [.ref b, .int v] (setM h b φ μ) n 0 0 (zR (some (.int 0)) (setM h b (va_up φ 0 1) μ) n) := by
  refine zCt.of G (by decide) (Nat.le_of_ble_eq_true rfl) (fun Sx V X hV hE hX => ?_)
  show V 0 [(0, .ref b), (1, .int v)] [] (setM h b φ μ) n 0 0
  refine hV.aload_n 0 dX5_touched_0 rfl ?_
  refine hV.iload_n 1 dX5_touched_1 rfl ?_
  refine hV.callS1 (rest := [.ref b]) dX5_touched_2 (c_X5_isRow G) my_X5_isRow ks_X5_57 rfl rfl (Nat.le_of_ble_eq_true rfl) (Nat.le_of_ble_eq_true rfl) (Nat.le_of_ble_eq_true rfl) (Nat.le_of_ble_eq_true rfl) (Nat.le_of_ble_eq_true rfl) (st2 := [.int (inV v 0 7), .ref b]) (k2 := 0) (g2 := 0) rfl rfl rfl ?_
  refine hV.if_eq_t (tgt := 12) dX5_touched_5 (by decide) f0 ?_
  refine hV.iconst (v := 1) dX5_touched_12 (by decide) ?_
  refine hV.putf dX5_touched_13 fp_X5_35 M_o (Nat.le_of_ble_eq_true rfl) rfl rfl M_f0 ?_
  refine hV.aload_n 0 dX5_touched_16 rfl ?_
  refine hV.getf (v := .int 1) dX5_touched_17 fl_X5_35 M_o rfl ?_
  refine hV.if_le_f (tgt := 27) dX5_touched_20 (by decide) (by decide) ?_
  refine hV.iconst (v := 0) dX5_touched_23 (by decide) ?_
  refine hV.goto (tgt := 37) dX5_touched_24 (by decide) ?_
  exact hE.1 dX5_touched_37 rfl rfl (by decide) (by decide) (zRi rfl rfl rfl)

set_option maxRecDepth 100000 in
set_option maxHeartbeats 4000000 in
theorem c_X5_touched {l : Launch} {D : va_G} {base : Nat} (G : l.stackTraces = false) {h : zH} {n : Nat} {b : Nat} {μ : zB} {φ : Nat → Int32} {r : Nat} (hr : r < 8) :
    zCt l D base 9 yX5_touched w_X5_touched [.ref b, .int (nI r)] (setM h b φ μ) n 0 0 (zR (some (.int (μ 0 (167 + r)))) (setM h b (va_up φ 0 0) μ) n) := by
  refine zCt.of G (by decide) (Nat.le_of_ble_eq_true rfl) (fun Sx V X hV hE hX => ?_)
  show V 0 [(0, .ref b), (1, .int (nI r))] [] (setM h b φ μ) n 0 0
  have f0 : ¬ (inV (nI r) 0 7) = 0 := (inV_T (inV_r7 hr))
  refine hV.aload_n 0 dX5_touched_0 rfl ?_
  refine hV.iload_n 1 dX5_touched_1 rfl ?_
  refine hV.callS1 (rest := [.ref b]) dX5_touched_2 (c_X5_isRow G) my_X5_isRow ks_X5_57 rfl rfl (Nat.le_of_ble_eq_true rfl) (Nat.le_of_ble_eq_true rfl) (Nat.le_of_ble_eq_true rfl) (Nat.le_of_ble_eq_true rfl) (Nat.le_of_ble_eq_true rfl) (st2 := [.int (inV (nI r) 0 7), .ref b]) (k2 := 0) (g2 := 0) rfl rfl rfl ?_
  refine hV.if_eq_f (tgt := 12) dX5_touched_5 (by decide) f0 ?_
  refine hV.iconst (v := 0) dX5_touched_8 (by decide) ?_
  refine hV.goto (tgt := 13) dX5_touched_9 (by decide) ?_
  refine hV.putf dX5_touched_13 fp_X5_35 M_o (Nat.le_of_ble_eq_true rfl) rfl rfl M_f0 ?_
  refine hV.aload_n 0 dX5_touched_16 rfl ?_
  refine hV.getf (v := .int 0) dX5_touched_17 fl_X5_35 M_o rfl ?_
  refine hV.if_le_t (tgt := 27) dX5_touched_20 (by decide) (by decide) ?_
  refine hV.aload_n 0 dX5_touched_27 rfl ?_
  refine hV.getf (v := .ref (b + 1)) dX5_touched_28 fl_X5_7 M_o rfl ?_
  refine hV.sipush (v := 167) dX5_touched_31 (by decide) ?_
  refine hV.iload_n 1 dX5_touched_34 rfl ?_
  refine hV.iaddN (a := 167) (b := r) dX5_touched_35 ?_
  refine hV.iald (j := 167 + r) dX5_touched_36 M_a0 (zix_nI (by omega)) (by omega) ?_
  exact hE.1 dX5_touched_37 rfl rfl (by decide) (by decide) (zRi rfl rfl rfl)

set_option maxRecDepth 100000 in
set_option maxHeartbeats 4000000 in
theorem c_X5_pocketOf_x1 {l : Launch} {D : va_G} {base : Nat} (G : l.stackTraces = false) {h : zH} {n : Nat} {b : Nat} {μ : zB} {φ : Nat → Int32} {p w : Int32} (f0 : (inV p 0 6) = 0) :
    zCt l D base 9 yX5_pocketOf w_X5_pocketOf [.ref b, .int p, .int w] (setM h b φ μ) n 0 0 (zR (some (.int 0)) (setM h b (va_up φ 0 1) μ) n) := by
  refine zCt.of G (by decide) (Nat.le_of_ble_eq_true rfl) (fun Sx V X hV hE hX => ?_)
  show V 0 [(0, .ref b), (1, .int p), (2, .int w)] [] (setM h b φ μ) n 0 0
  refine hV.aload_n 0 dX5_pocketOf_0 rfl ?_
  refine hV.iload_n 1 dX5_pocketOf_1 rfl ?_
  refine hV.callS1 (rest := [.ref b]) dX5_pocketOf_2 (c_X5_isColumn G) my_X5_isColumn ks_X5_61 rfl rfl (Nat.le_of_ble_eq_true rfl) (Nat.le_of_ble_eq_true rfl) (Nat.le_of_ble_eq_true rfl) (Nat.le_of_ble_eq_true rfl) (Nat.le_of_ble_eq_true rfl) (st2 := [.int (inV p 0 6), .ref b]) (k2 := 0) (g2 := 0) rfl rfl rfl ?_
  refine hV.if_ne_f (tgt := 12) dX5_pocketOf_5 (by decide) f0 ?_
  refine hV.iconst (v := 1) dX5_pocketOf_8 (by decide) ?_
  refine hV.goto (tgt := 26) dX5_pocketOf_9 (by decide) ?_
  refine hV.putf dX5_pocketOf_26 fp_X5_35 M_o (Nat.le_of_ble_eq_true rfl) rfl rfl M_f0 ?_
  refine hV.aload_n 0 dX5_pocketOf_29 rfl ?_
  refine hV.getf (v := .int 1) dX5_pocketOf_30 fl_X5_35 M_o rfl ?_
  refine hV.if_le_f (tgt := 40) dX5_pocketOf_33 (by decide) (by decide) ?_
  refine hV.iconst (v := 0) dX5_pocketOf_36 (by decide) ?_
  refine hV.goto (tgt := 46) dX5_pocketOf_37 (by decide) ?_
  exact hE.1 dX5_pocketOf_46 rfl rfl (by decide) (by decide) (zRi rfl rfl rfl)

set_option maxRecDepth 100000 in
set_option maxHeartbeats 4000000 in
theorem c_X5_pocketOf_x2 {l : Launch} {D : va_G} {base : Nat} (G : l.stackTraces = false) {h : zH} {n : Nat} {b : Nat} {μ : zB} {φ : Nat → Int32} {p w : Int32} (f0 : ¬ (inV p 0 6) = 0) (f1 : (inV w 0 4) = 0) :
    zCt l D base 9 yX5_pocketOf w_X5_pocketOf [.ref b, .int p, .int w] (setM h b φ μ) n 0 0 (zR (some (.int 0)) (setM h b (va_up φ 0 2) μ) n) := by
  refine zCt.of G (by decide) (Nat.le_of_ble_eq_true rfl) (fun Sx V X hV hE hX => ?_)
  show V 0 [(0, .ref b), (1, .int p), (2, .int w)] [] (setM h b φ μ) n 0 0
  refine hV.aload_n 0 dX5_pocketOf_0 rfl ?_
  refine hV.iload_n 1 dX5_pocketOf_1 rfl ?_
  refine hV.callS1 (rest := [.ref b]) dX5_pocketOf_2 (c_X5_isColumn G) my_X5_isColumn ks_X5_61 rfl rfl (Nat.le_of_ble_eq_true rfl) (Nat.le_of_ble_eq_true rfl) (Nat.le_of_ble_eq_true rfl) (Nat.le_of_ble_eq_true rfl) (Nat.le_of_ble_eq_true rfl) (st2 := [.int (inV p 0 6), .ref b]) (k2 := 0) (g2 := 0) rfl rfl rfl ?_
  refine hV.if_ne_t (tgt := 12) dX5_pocketOf_5 (by decide) f0 ?_
  refine hV.iload_n 2 dX5_pocketOf_12 rfl ?_
  refine hV.iconst (v := 0) dX5_pocketOf_13 (by decide) ?_
  refine hV.iconst (v := 4) dX5_pocketOf_14 (by decide) ?_
  refine hV.callS1 (rest := [.ref b]) dX5_pocketOf_15 (c_X5_in G) my_X5_in ks_X5_39 rfl rfl (Nat.le_of_ble_eq_true rfl) (Nat.le_of_ble_eq_true rfl) (Nat.le_of_ble_eq_true rfl) (Nat.le_of_ble_eq_true rfl) (Nat.le_of_ble_eq_true rfl) (st2 := [.int (inV w 0 4), .ref b]) (k2 := 0) (g2 := 0) rfl rfl rfl ?_
  refine hV.if_eq_t (tgt := 25) dX5_pocketOf_18 (by decide) f1 ?_
  refine hV.iconst (v := 2) dX5_pocketOf_25 (by decide) ?_
  refine hV.putf dX5_pocketOf_26 fp_X5_35 M_o (Nat.le_of_ble_eq_true rfl) rfl rfl M_f0 ?_
  refine hV.aload_n 0 dX5_pocketOf_29 rfl ?_
  refine hV.getf (v := .int 2) dX5_pocketOf_30 fl_X5_35 M_o rfl ?_
  refine hV.if_le_f (tgt := 40) dX5_pocketOf_33 (by decide) (by decide) ?_
  refine hV.iconst (v := 0) dX5_pocketOf_36 (by decide) ?_
  refine hV.goto (tgt := 46) dX5_pocketOf_37 (by decide) ?_
  exact hE.1 dX5_pocketOf_46 rfl rfl (by decide) (by decide) (zRi rfl rfl rfl)

set_option maxRecDepth 100000 in
set_option maxHeartbeats 4000000 in
theorem c_X5_pocketOf {l : Launch} {D : va_G} {base : Nat} (G : l.stackTraces = false) {h : zH} {n : Nat} {b : Nat} {μ : zB} {φ : Nat → Int32} {p w : Nat} (hp : p < 7) (hw : w < 5) :
    zCt l D base 9 yX5_pocketOf w_X5_pocketOf [.ref b, .int (nI p), .int (nI w)] (setM h b φ μ) n 0 0 (zR (some (.int (pkN (μ 0) p w))) (setM h b (va_up φ 0 0) μ) n) := by
  refine zCt.of G (by decide) (Nat.le_of_ble_eq_true rfl) (fun Sx V X hV hE hX => ?_)
  show V 0 [(0, .ref b), (1, .int (nI p)), (2, .int (nI w))] [] (setM h b φ μ) n 0 0
  have f0 : ¬ (inV (nI p) 0 6) = 0 := (inV_T (inV_c6 hp))
  have f1 : ¬ (inV (nI w) 0 4) = 0 := (inV_T (inV_N (lo := 0) (hi := 4) (by omega) (by omega) (by decide)))
  refine hV.aload_n 0 dX5_pocketOf_0 rfl ?_
  refine hV.iload_n 1 dX5_pocketOf_1 rfl ?_
  refine hV.callS1 (rest := [.ref b]) dX5_pocketOf_2 (c_X5_isColumn G) my_X5_isColumn ks_X5_61 rfl rfl (Nat.le_of_ble_eq_true rfl) (Nat.le_of_ble_eq_true rfl) (Nat.le_of_ble_eq_true rfl) (Nat.le_of_ble_eq_true rfl) (Nat.le_of_ble_eq_true rfl) (st2 := [.int (inV (nI p) 0 6), .ref b]) (k2 := 0) (g2 := 0) rfl rfl rfl ?_
  refine hV.if_ne_t (tgt := 12) dX5_pocketOf_5 (by decide) f0 ?_
  refine hV.iload_n 2 dX5_pocketOf_12 rfl ?_
  refine hV.iconst (v := 0) dX5_pocketOf_13 (by decide) ?_
  refine hV.iconst (v := 4) dX5_pocketOf_14 (by decide) ?_
  refine hV.callS1 (rest := [.ref b]) dX5_pocketOf_15 (c_X5_in G) my_X5_in ks_X5_39 rfl rfl (Nat.le_of_ble_eq_true rfl) (Nat.le_of_ble_eq_true rfl) (Nat.le_of_ble_eq_true rfl) (Nat.le_of_ble_eq_true rfl) (Nat.le_of_ble_eq_true rfl) (st2 := [.int (inV (nI w) 0 4), .ref b]) (k2 := 0) (g2 := 0) rfl rfl rfl ?_
  refine hV.if_eq_f (tgt := 25) dX5_pocketOf_18 (by decide) f1 ?_
  refine hV.iconst (v := 0) dX5_pocketOf_21 (by decide) ?_
  refine hV.goto (tgt := 26) dX5_pocketOf_22 (by decide) ?_
  refine hV.putf dX5_pocketOf_26 fp_X5_35 M_o (Nat.le_of_ble_eq_true rfl) rfl rfl M_f0 ?_
  refine hV.aload_n 0 dX5_pocketOf_29 rfl ?_
  refine hV.getf (v := .int 0) dX5_pocketOf_30 fl_X5_35 M_o rfl ?_
  refine hV.if_le_t (tgt := 40) dX5_pocketOf_33 (by decide) (by decide) ?_
  refine hV.aload_n 0 dX5_pocketOf_40 rfl ?_
  refine hV.iload_n 1 dX5_pocketOf_41 rfl ?_
  refine hV.iload_n 2 dX5_pocketOf_42 rfl ?_
  refine hV.callV1 (rest := []) dX5_pocketOf_43 (c_X5_pocketNow G (p := p) (w := w) (by omega) (by omega)) my_X5_pocketNow kv_X5_143 M_o rfl rfl rfl (Nat.le_of_ble_eq_true rfl) (Nat.le_of_ble_eq_true rfl) (Nat.le_of_ble_eq_true rfl) (Nat.le_of_ble_eq_true rfl) (Nat.le_of_ble_eq_true rfl) (st2 := [.int (pkN (μ 0) p w)]) (k2 := 0) (g2 := 0) rfl rfl rfl ?_
  exact hE.1 dX5_pocketOf_46 rfl rfl (by decide) (by decide) (zRi rfl rfl rfl)

set_option maxRecDepth 100000 in
set_option maxHeartbeats 4000000 in
theorem c_X5_reel_x1 {l : Launch} {D : va_G} {base : Nat} (G : l.stackTraces = false) {h : zH} {n : Nat} {b : Nat} {μ : zB} {φ : Nat → Int32} {v : Int32} (f0 : (inV v 0 2) = 0) :
    zCt l D base 9 yX5_reel w_X5_reel [.ref b, .int v] (setM h b φ μ) n 0 0 (zR (some (.int 0)) (setM h b (va_up φ 0 1) μ) n) := by
  refine zCt.of G (by decide) (Nat.le_of_ble_eq_true rfl) (fun Sx V X hV hE hX => ?_)
  show V 0 [(0, .ref b), (1, .int v)] [] (setM h b φ μ) n 0 0
  refine hV.aload_n 0 dX5_reel_0 rfl ?_
  refine hV.iload_n 1 dX5_reel_1 rfl ?_
  refine hV.iconst (v := 0) dX5_reel_2 (by decide) ?_
  refine hV.iconst (v := 2) dX5_reel_3 (by decide) ?_
  refine hV.callS1 (rest := [.ref b]) dX5_reel_4 (c_X5_in G) my_X5_in ks_X5_39 rfl rfl (Nat.le_of_ble_eq_true rfl) (Nat.le_of_ble_eq_true rfl) (Nat.le_of_ble_eq_true rfl) (Nat.le_of_ble_eq_true rfl) (Nat.le_of_ble_eq_true rfl) (st2 := [.int (inV v 0 2), .ref b]) (k2 := 0) (g2 := 0) rfl rfl rfl ?_
  refine hV.if_eq_t (tgt := 14) dX5_reel_7 (by decide) f0 ?_
  refine hV.iconst (v := 1) dX5_reel_14 (by decide) ?_
  refine hV.putf dX5_reel_15 fp_X5_35 M_o (Nat.le_of_ble_eq_true rfl) rfl rfl M_f0 ?_
  refine hV.aload_n 0 dX5_reel_18 rfl ?_
  refine hV.getf (v := .int 1) dX5_reel_19 fl_X5_35 M_o rfl ?_
  refine hV.if_le_f (tgt := 29) dX5_reel_22 (by decide) (by decide) ?_
  refine hV.iconst (v := 0) dX5_reel_25 (by decide) ?_
  refine hV.goto (tgt := 38) dX5_reel_26 (by decide) ?_
  exact hE.1 dX5_reel_38 rfl rfl (by decide) (by decide) (zRi rfl rfl rfl)

set_option maxRecDepth 100000 in
set_option maxHeartbeats 4000000 in
theorem c_X5_reel {l : Launch} {D : va_G} {base : Nat} (G : l.stackTraces = false) {h : zH} {n : Nat} {b : Nat} {μ : zB} {φ : Nat → Int32} {w : Nat} (hw : w < 3) :
    zCt l D base 9 yX5_reel w_X5_reel [.ref b, .int (nI w)] (setM h b φ μ) n 0 0 (zR (some (.int (μ 0 (17 + w)))) (setM h b (va_up φ 0 0) μ) n) := by
  refine zCt.of G (by decide) (Nat.le_of_ble_eq_true rfl) (fun Sx V X hV hE hX => ?_)
  show V 0 [(0, .ref b), (1, .int (nI w))] [] (setM h b φ μ) n 0 0
  have f0 : ¬ (inV (nI w) 0 2) = 0 := (inV_T (inV_N (lo := 0) (hi := 2) (by omega) (by omega) (by decide)))
  refine hV.aload_n 0 dX5_reel_0 rfl ?_
  refine hV.iload_n 1 dX5_reel_1 rfl ?_
  refine hV.iconst (v := 0) dX5_reel_2 (by decide) ?_
  refine hV.iconst (v := 2) dX5_reel_3 (by decide) ?_
  refine hV.callS1 (rest := [.ref b]) dX5_reel_4 (c_X5_in G) my_X5_in ks_X5_39 rfl rfl (Nat.le_of_ble_eq_true rfl) (Nat.le_of_ble_eq_true rfl) (Nat.le_of_ble_eq_true rfl) (Nat.le_of_ble_eq_true rfl) (Nat.le_of_ble_eq_true rfl) (st2 := [.int (inV (nI w) 0 2), .ref b]) (k2 := 0) (g2 := 0) rfl rfl rfl ?_
  refine hV.if_eq_f (tgt := 14) dX5_reel_7 (by decide) f0 ?_
  refine hV.iconst (v := 0) dX5_reel_10 (by decide) ?_
  refine hV.goto (tgt := 15) dX5_reel_11 (by decide) ?_
  refine hV.putf dX5_reel_15 fp_X5_35 M_o (Nat.le_of_ble_eq_true rfl) rfl rfl M_f0 ?_
  refine hV.aload_n 0 dX5_reel_18 rfl ?_
  refine hV.getf (v := .int 0) dX5_reel_19 fl_X5_35 M_o rfl ?_
  refine hV.if_le_t (tgt := 29) dX5_reel_22 (by decide) (by decide) ?_
  refine hV.aload_n 0 dX5_reel_29 rfl ?_
  refine hV.getf (v := .ref (b + 1)) dX5_reel_30 fl_X5_7 M_o rfl ?_
  refine hV.bipush (v := 17) dX5_reel_33 (by decide) ?_
  refine hV.iload_n 1 dX5_reel_35 rfl ?_
  refine hV.iaddN (a := 17) (b := w) dX5_reel_36 ?_
  refine hV.iald (j := 17 + w) dX5_reel_37 M_a0 (zix_nI (by omega)) (by omega) ?_
  exact hE.1 dX5_reel_38 rfl rfl (by decide) (by decide) (zRi rfl rfl rfl)

set_option maxRecDepth 100000 in
set_option maxHeartbeats 4000000 in
theorem c_X5_count_x1 {l : Launch} {D : va_G} {base : Nat} (G : l.stackTraces = false) {h : zH} {n : Nat} {b : Nat} {μ : zB} {φ : Nat → Int32} {v : Int32} (f0 : (inV v 0 17) = 0) :
    zCt l D base 9 yX5_count w_X5_count [.ref b, .int v] (setM h b φ μ) n 0 0 (zR (some (.int 0)) (setM h b (va_up φ 0 1) μ) n) := by
  refine zCt.of G (by decide) (Nat.le_of_ble_eq_true rfl) (fun Sx V X hV hE hX => ?_)
  show V 0 [(0, .ref b), (1, .int v)] [] (setM h b φ μ) n 0 0
  refine hV.aload_n 0 dX5_count_0 rfl ?_
  refine hV.iload_n 1 dX5_count_1 rfl ?_
  refine hV.iconst (v := 0) dX5_count_2 (by decide) ?_
  refine hV.bipush (v := 17) dX5_count_3 (by decide) ?_
  refine hV.callS1 (rest := [.ref b]) dX5_count_5 (c_X5_in G) my_X5_in ks_X5_39 rfl rfl (Nat.le_of_ble_eq_true rfl) (Nat.le_of_ble_eq_true rfl) (Nat.le_of_ble_eq_true rfl) (Nat.le_of_ble_eq_true rfl) (Nat.le_of_ble_eq_true rfl) (st2 := [.int (inV v 0 17), .ref b]) (k2 := 0) (g2 := 0) rfl rfl rfl ?_
  refine hV.if_eq_t (tgt := 15) dX5_count_8 (by decide) f0 ?_
  refine hV.iconst (v := 1) dX5_count_15 (by decide) ?_
  refine hV.putf dX5_count_16 fp_X5_35 M_o (Nat.le_of_ble_eq_true rfl) rfl rfl M_f0 ?_
  refine hV.aload_n 0 dX5_count_19 rfl ?_
  refine hV.getf (v := .int 1) dX5_count_20 fl_X5_35 M_o rfl ?_
  refine hV.if_le_f (tgt := 30) dX5_count_23 (by decide) (by decide) ?_
  refine hV.iconst (v := 0) dX5_count_26 (by decide) ?_
  refine hV.goto (tgt := 35) dX5_count_27 (by decide) ?_
  exact hE.1 dX5_count_35 rfl rfl (by decide) (by decide) (zRi rfl rfl rfl)

set_option maxRecDepth 100000 in
set_option maxHeartbeats 4000000 in
theorem c_X5_count {l : Launch} {D : va_G} {base : Nat} (G : l.stackTraces = false) {h : zH} {n : Nat} {b : Nat} {μ : zB} {φ : Nat → Int32} {k : Nat} (hk : φ 1 = nI k) {w : Nat} (hw : w < 18) :
    zCt l D base 9 yX5_count w_X5_count [.ref b, .int (nI w)] (setM h b φ μ) n 0 0 (zR (some (.int (cnN (μ 0) k w))) (setM h b (va_up φ 0 0) μ) n) := by
  refine zCt.of G (by decide) (Nat.le_of_ble_eq_true rfl) (fun Sx V X hV hE hX => ?_)
  show V 0 [(0, .ref b), (1, .int (nI w))] [] (setM h b φ μ) n 0 0
  have f0 : ¬ (inV (nI w) 0 17) = 0 := (inV_T (inV_N (lo := 0) (hi := 17) (by omega) (by omega) (by decide)))
  refine hV.aload_n 0 dX5_count_0 rfl ?_
  refine hV.iload_n 1 dX5_count_1 rfl ?_
  refine hV.iconst (v := 0) dX5_count_2 (by decide) ?_
  refine hV.bipush (v := 17) dX5_count_3 (by decide) ?_
  refine hV.callS1 (rest := [.ref b]) dX5_count_5 (c_X5_in G) my_X5_in ks_X5_39 rfl rfl (Nat.le_of_ble_eq_true rfl) (Nat.le_of_ble_eq_true rfl) (Nat.le_of_ble_eq_true rfl) (Nat.le_of_ble_eq_true rfl) (Nat.le_of_ble_eq_true rfl) (st2 := [.int (inV (nI w) 0 17), .ref b]) (k2 := 0) (g2 := 0) rfl rfl rfl ?_
  refine hV.if_eq_f (tgt := 15) dX5_count_8 (by decide) f0 ?_
  refine hV.iconst (v := 0) dX5_count_11 (by decide) ?_
  refine hV.goto (tgt := 16) dX5_count_12 (by decide) ?_
  refine hV.putf dX5_count_16 fp_X5_35 M_o (Nat.le_of_ble_eq_true rfl) rfl rfl M_f0 ?_
  refine hV.aload_n 0 dX5_count_19 rfl ?_
  refine hV.getf (v := .int 0) dX5_count_20 fl_X5_35 M_o rfl ?_
  refine hV.if_le_t (tgt := 30) dX5_count_23 (by decide) (by decide) ?_
  refine hV.aload_n 0 dX5_count_30 rfl ?_
  refine hV.iload_n 1 dX5_count_31 rfl ?_
  refine hV.callV1 (rest := []) dX5_count_32 (c_X5_countNow G (k := k) (w := w) (by exact hk) (by omega)) my_X5_countNow kv_X5_149 M_o rfl rfl rfl (Nat.le_of_ble_eq_true rfl) (Nat.le_of_ble_eq_true rfl) (Nat.le_of_ble_eq_true rfl) (Nat.le_of_ble_eq_true rfl) (Nat.le_of_ble_eq_true rfl) (st2 := [.int (cnN (μ 0) k w)]) (k2 := 0) (g2 := 0) rfl rfl rfl ?_
  exact hE.1 dX5_count_35 rfl rfl (by decide) (by decide) (zRi rfl rfl rfl)

set_option maxRecDepth 100000 in
set_option maxHeartbeats 4000000 in
theorem c_X5_ways_x1 {l : Launch} {D : va_G} {base : Nat} (G : l.stackTraces = false) {h : zH} {n : Nat} {b : Nat} {μ : zB} {φ : Nat → Int32} {c p : Int32} (f0 : (inV c 0 6) = 0) :
    zCt l D base 9 yX5_ways w_X5_ways [.ref b, .int c, .int p] (setM h b φ μ) n 0 0 (zR (some (.int 0)) (setM h b (va_up φ 0 1) μ) n) := by
  refine zCt.of G (by decide) (Nat.le_of_ble_eq_true rfl) (fun Sx V X hV hE hX => ?_)
  show V 0 [(0, .ref b), (1, .int c), (2, .int p)] [] (setM h b φ μ) n 0 0
  refine hV.aload_n 0 dX5_ways_0 rfl ?_
  refine hV.iload_n 1 dX5_ways_1 rfl ?_
  refine hV.callS1 (rest := [.ref b]) dX5_ways_2 (c_X5_isColumn G) my_X5_isColumn ks_X5_61 rfl rfl (Nat.le_of_ble_eq_true rfl) (Nat.le_of_ble_eq_true rfl) (Nat.le_of_ble_eq_true rfl) (Nat.le_of_ble_eq_true rfl) (Nat.le_of_ble_eq_true rfl) (st2 := [.int (inV c 0 6), .ref b]) (k2 := 0) (g2 := 0) rfl rfl rfl ?_
  refine hV.if_eq_t (tgt := 19) dX5_ways_5 (by decide) f0 ?_
  refine hV.iconst (v := 1) dX5_ways_19 (by decide) ?_
  refine hV.putf dX5_ways_20 fp_X5_35 M_o (Nat.le_of_ble_eq_true rfl) rfl rfl M_f0 ?_
  refine hV.aload_n 0 dX5_ways_23 rfl ?_
  refine hV.getf (v := .int 1) dX5_ways_24 fl_X5_35 M_o rfl ?_
  refine hV.if_le_f (tgt := 34) dX5_ways_27 (by decide) (by decide) ?_
  refine hV.iconst (v := 0) dX5_ways_30 (by decide) ?_
  refine hV.goto (tgt := 40) dX5_ways_31 (by decide) ?_
  exact hE.1 dX5_ways_40 rfl rfl (by decide) (by decide) (zRi rfl rfl rfl)

set_option maxRecDepth 100000 in
set_option maxHeartbeats 4000000 in
theorem c_X5_ways_x2 {l : Launch} {D : va_G} {base : Nat} (G : l.stackTraces = false) {h : zH} {n : Nat} {b : Nat} {μ : zB} {φ : Nat → Int32} {c p : Int32} (f0 : ¬ (inV c 0 6) = 0) (f1 : (inV p 0 6) = 0) :
    zCt l D base 9 yX5_ways w_X5_ways [.ref b, .int c, .int p] (setM h b φ μ) n 0 0 (zR (some (.int 0)) (setM h b (va_up φ 0 1) μ) n) := by
  refine zCt.of G (by decide) (Nat.le_of_ble_eq_true rfl) (fun Sx V X hV hE hX => ?_)
  show V 0 [(0, .ref b), (1, .int c), (2, .int p)] [] (setM h b φ μ) n 0 0
  refine hV.aload_n 0 dX5_ways_0 rfl ?_
  refine hV.iload_n 1 dX5_ways_1 rfl ?_
  refine hV.callS1 (rest := [.ref b]) dX5_ways_2 (c_X5_isColumn G) my_X5_isColumn ks_X5_61 rfl rfl (Nat.le_of_ble_eq_true rfl) (Nat.le_of_ble_eq_true rfl) (Nat.le_of_ble_eq_true rfl) (Nat.le_of_ble_eq_true rfl) (Nat.le_of_ble_eq_true rfl) (st2 := [.int (inV c 0 6), .ref b]) (k2 := 0) (g2 := 0) rfl rfl rfl ?_
  refine hV.if_eq_f (tgt := 19) dX5_ways_5 (by decide) f0 ?_
  refine hV.iload_n 2 dX5_ways_8 rfl ?_
  refine hV.callS1 (rest := [.ref b]) dX5_ways_9 (c_X5_isColumn G) my_X5_isColumn ks_X5_61 rfl rfl (Nat.le_of_ble_eq_true rfl) (Nat.le_of_ble_eq_true rfl) (Nat.le_of_ble_eq_true rfl) (Nat.le_of_ble_eq_true rfl) (Nat.le_of_ble_eq_true rfl) (st2 := [.int (inV p 0 6), .ref b]) (k2 := 0) (g2 := 0) rfl rfl rfl ?_
  refine hV.if_eq_t (tgt := 19) dX5_ways_12 (by decide) f1 ?_
  refine hV.iconst (v := 1) dX5_ways_19 (by decide) ?_
  refine hV.putf dX5_ways_20 fp_X5_35 M_o (Nat.le_of_ble_eq_true rfl) rfl rfl M_f0 ?_
  refine hV.aload_n 0 dX5_ways_23 rfl ?_
  refine hV.getf (v := .int 1) dX5_ways_24 fl_X5_35 M_o rfl ?_
  refine hV.if_le_f (tgt := 34) dX5_ways_27 (by decide) (by decide) ?_
  refine hV.iconst (v := 0) dX5_ways_30 (by decide) ?_
  refine hV.goto (tgt := 40) dX5_ways_31 (by decide) ?_
  exact hE.1 dX5_ways_40 rfl rfl (by decide) (by decide) (zRi rfl rfl rfl)

set_option maxRecDepth 100000 in
set_option maxHeartbeats 4000000 in
theorem c_X5_ways {l : Launch} {D : va_G} {base : Nat} (G : l.stackTraces = false) {h : zH} {n : Nat} {b : Nat} {μ : zB} {φ : Nat → Int32} {c p : Nat} (hc : c < 7) (hp : p < 7) :
    zCt l D base 9 yX5_ways w_X5_ways [.ref b, .int (nI c), .int (nI p)] (setM h b φ μ) n 0 0 (zR (some (.int (wv (μ 0) c p))) (setM h b (va_up φ 0 0) (sa (sa μ 5 ((fwQ (μ 0) c (μ 5) (μ 6)).1)) 6 ((fwQ (μ 0) c (μ 5) (μ 6)).2))) n) := by
  refine zCt.of G (by decide) (Nat.le_of_ble_eq_true rfl) (fun Sx V X hV hE hX => ?_)
  show V 0 [(0, .ref b), (1, .int (nI c)), (2, .int (nI p))] [] (setM h b φ μ) n 0 0
  have f0 : ¬ (inV (nI c) 0 6) = 0 := (inV_T (inV_c6 hc))
  have f1 : ¬ (inV (nI p) 0 6) = 0 := (inV_T (inV_c6 hp))
  refine hV.aload_n 0 dX5_ways_0 rfl ?_
  refine hV.iload_n 1 dX5_ways_1 rfl ?_
  refine hV.callS1 (rest := [.ref b]) dX5_ways_2 (c_X5_isColumn G) my_X5_isColumn ks_X5_61 rfl rfl (Nat.le_of_ble_eq_true rfl) (Nat.le_of_ble_eq_true rfl) (Nat.le_of_ble_eq_true rfl) (Nat.le_of_ble_eq_true rfl) (Nat.le_of_ble_eq_true rfl) (st2 := [.int (inV (nI c) 0 6), .ref b]) (k2 := 0) (g2 := 0) rfl rfl rfl ?_
  refine hV.if_eq_f (tgt := 19) dX5_ways_5 (by decide) f0 ?_
  refine hV.iload_n 2 dX5_ways_8 rfl ?_
  refine hV.callS1 (rest := [.ref b]) dX5_ways_9 (c_X5_isColumn G) my_X5_isColumn ks_X5_61 rfl rfl (Nat.le_of_ble_eq_true rfl) (Nat.le_of_ble_eq_true rfl) (Nat.le_of_ble_eq_true rfl) (Nat.le_of_ble_eq_true rfl) (Nat.le_of_ble_eq_true rfl) (st2 := [.int (inV (nI p) 0 6), .ref b]) (k2 := 0) (g2 := 0) rfl rfl rfl ?_
  refine hV.if_eq_f (tgt := 19) dX5_ways_12 (by decide) f1 ?_
  refine hV.iconst (v := 0) dX5_ways_15 (by decide) ?_
  refine hV.goto (tgt := 20) dX5_ways_16 (by decide) ?_
  refine hV.putf dX5_ways_20 fp_X5_35 M_o (Nat.le_of_ble_eq_true rfl) rfl rfl M_f0 ?_
  refine hV.aload_n 0 dX5_ways_23 rfl ?_
  refine hV.getf (v := .int 0) dX5_ways_24 fl_X5_35 M_o rfl ?_
  refine hV.if_le_t (tgt := 34) dX5_ways_27 (by decide) (by decide) ?_
  refine hV.aload_n 0 dX5_ways_34 rfl ?_
  refine hV.iload_n 1 dX5_ways_35 rfl ?_
  refine hV.iload_n 2 dX5_ways_36 rfl ?_
  refine hV.callV1 (rest := []) dX5_ways_37 (c_X5_waysTo G hc hp) my_X5_waysTo kv_X5_156 M_o rfl rfl rfl (Nat.le_of_ble_eq_true rfl) (Nat.le_of_ble_eq_true rfl) (Nat.le_of_ble_eq_true rfl) (Nat.le_of_ble_eq_true rfl) (Nat.le_of_ble_eq_true rfl) (st2 := [.int (wv (μ 0) c p)]) (k2 := 0) (g2 := 0) rfl rfl rfl ?_
  exact hE.1 dX5_ways_40 rfl rfl (by decide) (by decide) (zRi rfl rfl rfl)

set_option maxRecDepth 100000 in
set_option maxHeartbeats 4000000 in
theorem c_X5_walked_x1 {l : Launch} {D : va_G} {base : Nat} (G : l.stackTraces = false) {h : zH} {n : Nat} {b : Nat} {μ : zB} {φ : Nat → Int32} {c p : Int32} (f0 : (inV c 0 6) = 0) :
    zCt l D base 10 yX5_walked w_X5_walked [.ref b, .int c, .int p] (setM h b φ μ) n 0 0 (zR (some (.int 0)) (setM h b (va_up φ 0 1) μ) n) := by
  refine zCt.of G (by decide) (Nat.le_of_ble_eq_true rfl) (fun Sx V X hV hE hX => ?_)
  show V 0 [(0, .ref b), (1, .int c), (2, .int p)] [] (setM h b φ μ) n 0 0
  refine hV.aload_n 0 dX5_walked_0 rfl ?_
  refine hV.iload_n 1 dX5_walked_1 rfl ?_
  refine hV.iload_n 2 dX5_walked_2 rfl ?_
  refine hV.callV1 (rest := []) dX5_walked_3 (c_X5_ways_x1 G f0) my_X5_ways kv_X5_159 M_o rfl rfl rfl (Nat.le_of_ble_eq_true rfl) (Nat.le_of_ble_eq_true rfl) (Nat.le_of_ble_eq_true rfl) (Nat.le_of_ble_eq_true rfl) (Nat.le_of_ble_eq_true rfl) (st2 := [.int 0]) (k2 := 0) (g2 := 0) rfl rfl rfl ?_
  exact hE.1 dX5_walked_6 rfl rfl (by decide) (by decide) (zRi rfl rfl rfl)

set_option maxRecDepth 100000 in
set_option maxHeartbeats 4000000 in
theorem c_X5_walked_x2 {l : Launch} {D : va_G} {base : Nat} (G : l.stackTraces = false) {h : zH} {n : Nat} {b : Nat} {μ : zB} {φ : Nat → Int32} {c p : Int32} (f0 : ¬ (inV c 0 6) = 0) (f1 : (inV p 0 6) = 0) :
    zCt l D base 10 yX5_walked w_X5_walked [.ref b, .int c, .int p] (setM h b φ μ) n 0 0 (zR (some (.int 0)) (setM h b (va_up φ 0 1) μ) n) := by
  refine zCt.of G (by decide) (Nat.le_of_ble_eq_true rfl) (fun Sx V X hV hE hX => ?_)
  show V 0 [(0, .ref b), (1, .int c), (2, .int p)] [] (setM h b φ μ) n 0 0
  refine hV.aload_n 0 dX5_walked_0 rfl ?_
  refine hV.iload_n 1 dX5_walked_1 rfl ?_
  refine hV.iload_n 2 dX5_walked_2 rfl ?_
  refine hV.callV1 (rest := []) dX5_walked_3 (c_X5_ways_x2 G f0 f1) my_X5_ways kv_X5_159 M_o rfl rfl rfl (Nat.le_of_ble_eq_true rfl) (Nat.le_of_ble_eq_true rfl) (Nat.le_of_ble_eq_true rfl) (Nat.le_of_ble_eq_true rfl) (Nat.le_of_ble_eq_true rfl) (st2 := [.int 0]) (k2 := 0) (g2 := 0) rfl rfl rfl ?_
  exact hE.1 dX5_walked_6 rfl rfl (by decide) (by decide) (zRi rfl rfl rfl)

set_option maxRecDepth 100000 in
set_option maxHeartbeats 4000000 in
theorem c_X5_walked {l : Launch} {D : va_G} {base : Nat} (G : l.stackTraces = false) {h : zH} {n : Nat} {b : Nat} {μ : zB} {φ : Nat → Int32} {c p : Nat} (hc : c < 7) (hp : p < 7) :
    zCt l D base 10 yX5_walked w_X5_walked [.ref b, .int (nI c), .int (nI p)] (setM h b φ μ) n 0 0 (zR (some (.int (wv (μ 0) c p))) (setM h b (va_up φ 0 0) (sa (sa μ 5 ((fwQ (μ 0) c (μ 5) (μ 6)).1)) 6 ((fwQ (μ 0) c (μ 5) (μ 6)).2))) n) := by
  refine zCt.of G (by decide) (Nat.le_of_ble_eq_true rfl) (fun Sx V X hV hE hX => ?_)
  show V 0 [(0, .ref b), (1, .int (nI c)), (2, .int (nI p))] [] (setM h b φ μ) n 0 0
  refine hV.aload_n 0 dX5_walked_0 rfl ?_
  refine hV.iload_n 1 dX5_walked_1 rfl ?_
  refine hV.iload_n 2 dX5_walked_2 rfl ?_
  refine hV.callV1 (rest := []) dX5_walked_3 (c_X5_ways G hc hp) my_X5_ways kv_X5_159 M_o rfl rfl rfl (Nat.le_of_ble_eq_true rfl) (Nat.le_of_ble_eq_true rfl) (Nat.le_of_ble_eq_true rfl) (Nat.le_of_ble_eq_true rfl) (Nat.le_of_ble_eq_true rfl) (st2 := [.int (wv (μ 0) c p)]) (k2 := 0) (g2 := 0) rfl rfl rfl ?_
  exact hE.1 dX5_walked_6 rfl rfl (by decide) (by decide) (zRi rfl rfl rfl)

set_option maxRecDepth 100000 in
set_option maxHeartbeats 4000000 in
theorem c_X5_ifLaunched_x1 {l : Launch} {D : va_G} {base : Nat} (G : l.stackTraces = false) {h : zH} {n : Nat} {b : Nat} {μ : zB} {φ : Nat → Int32} {c w : Int32} (f0 : (inV c 0 6) = 0) :
    zCt l D base 9 yX5_ifLaunched w_X5_ifLaunched [.ref b, .int c, .int w] (setM h b φ μ) n 0 0 (zR (some (.int 0)) (setM h b (va_up φ 0 1) μ) n) := by
  refine zCt.of G (by decide) (Nat.le_of_ble_eq_true rfl) (fun Sx V X hV hE hX => ?_)
  show V 0 [(0, .ref b), (1, .int c), (2, .int w)] [] (setM h b φ μ) n 0 0
  refine hV.aload_n 0 dX5_ifLaunched_0 rfl ?_
  refine hV.iload_n 1 dX5_ifLaunched_1 rfl ?_
  refine hV.callS1 (rest := [.ref b]) dX5_ifLaunched_2 (c_X5_isColumn G) my_X5_isColumn ks_X5_61 rfl rfl (Nat.le_of_ble_eq_true rfl) (Nat.le_of_ble_eq_true rfl) (Nat.le_of_ble_eq_true rfl) (Nat.le_of_ble_eq_true rfl) (Nat.le_of_ble_eq_true rfl) (st2 := [.int (inV c 0 6), .ref b]) (k2 := 0) (g2 := 0) rfl rfl rfl ?_
  refine hV.if_ne_f (tgt := 12) dX5_ifLaunched_5 (by decide) f0 ?_
  refine hV.iconst (v := 1) dX5_ifLaunched_8 (by decide) ?_
  refine hV.goto (tgt := 26) dX5_ifLaunched_9 (by decide) ?_
  refine hV.putf dX5_ifLaunched_26 fp_X5_35 M_o (Nat.le_of_ble_eq_true rfl) rfl rfl M_f0 ?_
  refine hV.aload_n 0 dX5_ifLaunched_29 rfl ?_
  refine hV.getf (v := .int 1) dX5_ifLaunched_30 fl_X5_35 M_o rfl ?_
  refine hV.if_le_f (tgt := 40) dX5_ifLaunched_33 (by decide) (by decide) ?_
  refine hV.iconst (v := 0) dX5_ifLaunched_36 (by decide) ?_
  refine hV.goto (tgt := 46) dX5_ifLaunched_37 (by decide) ?_
  exact hE.1 dX5_ifLaunched_46 rfl rfl (by decide) (by decide) (zRi rfl rfl rfl)

set_option maxRecDepth 100000 in
set_option maxHeartbeats 4000000 in
theorem c_X5_ifLaunched_x2 {l : Launch} {D : va_G} {base : Nat} (G : l.stackTraces = false) {h : zH} {n : Nat} {b : Nat} {μ : zB} {φ : Nat → Int32} {c w : Int32} (f0 : ¬ (inV c 0 6) = 0) (f1 : (inV w 0 3) = 0) :
    zCt l D base 9 yX5_ifLaunched w_X5_ifLaunched [.ref b, .int c, .int w] (setM h b φ μ) n 0 0 (zR (some (.int 0)) (setM h b (va_up φ 0 2) μ) n) := by
  refine zCt.of G (by decide) (Nat.le_of_ble_eq_true rfl) (fun Sx V X hV hE hX => ?_)
  show V 0 [(0, .ref b), (1, .int c), (2, .int w)] [] (setM h b φ μ) n 0 0
  refine hV.aload_n 0 dX5_ifLaunched_0 rfl ?_
  refine hV.iload_n 1 dX5_ifLaunched_1 rfl ?_
  refine hV.callS1 (rest := [.ref b]) dX5_ifLaunched_2 (c_X5_isColumn G) my_X5_isColumn ks_X5_61 rfl rfl (Nat.le_of_ble_eq_true rfl) (Nat.le_of_ble_eq_true rfl) (Nat.le_of_ble_eq_true rfl) (Nat.le_of_ble_eq_true rfl) (Nat.le_of_ble_eq_true rfl) (st2 := [.int (inV c 0 6), .ref b]) (k2 := 0) (g2 := 0) rfl rfl rfl ?_
  refine hV.if_ne_t (tgt := 12) dX5_ifLaunched_5 (by decide) f0 ?_
  refine hV.iload_n 2 dX5_ifLaunched_12 rfl ?_
  refine hV.iconst (v := 0) dX5_ifLaunched_13 (by decide) ?_
  refine hV.iconst (v := 3) dX5_ifLaunched_14 (by decide) ?_
  refine hV.callS1 (rest := [.ref b]) dX5_ifLaunched_15 (c_X5_in G) my_X5_in ks_X5_39 rfl rfl (Nat.le_of_ble_eq_true rfl) (Nat.le_of_ble_eq_true rfl) (Nat.le_of_ble_eq_true rfl) (Nat.le_of_ble_eq_true rfl) (Nat.le_of_ble_eq_true rfl) (st2 := [.int (inV w 0 3), .ref b]) (k2 := 0) (g2 := 0) rfl rfl rfl ?_
  refine hV.if_eq_t (tgt := 25) dX5_ifLaunched_18 (by decide) f1 ?_
  refine hV.iconst (v := 2) dX5_ifLaunched_25 (by decide) ?_
  refine hV.putf dX5_ifLaunched_26 fp_X5_35 M_o (Nat.le_of_ble_eq_true rfl) rfl rfl M_f0 ?_
  refine hV.aload_n 0 dX5_ifLaunched_29 rfl ?_
  refine hV.getf (v := .int 2) dX5_ifLaunched_30 fl_X5_35 M_o rfl ?_
  refine hV.if_le_f (tgt := 40) dX5_ifLaunched_33 (by decide) (by decide) ?_
  refine hV.iconst (v := 0) dX5_ifLaunched_36 (by decide) ?_
  refine hV.goto (tgt := 46) dX5_ifLaunched_37 (by decide) ?_
  exact hE.1 dX5_ifLaunched_46 rfl rfl (by decide) (by decide) (zRi rfl rfl rfl)

set_option maxRecDepth 100000 in
set_option maxHeartbeats 4000000 in
theorem c_X5_ifLaunched {l : Launch} {D : va_G} {base : Nat} (G : l.stackTraces = false) {h : zH} {n : Nat} {b : Nat} {μ : zB} {φ : Nat → Int32} (hx0 : xOk (μ 0)) (hp0 : pinZ (μ 0)) {c w : Nat} (hc : c < 7) (hw : w < 4) :
    zCt l D base 9 yX5_ifLaunched w_X5_ifLaunched [.ref b, .int (nI c), .int (nI w)] (setM h b φ μ) n 0 0 (zR (some (.int (ldV (μ 0) c w))) (setM h b (va_up φ 0 0) (sa μ 1 (cpz (μ 1) (μ 0) 175))) n) := by
  refine zCt.of G (by decide) (Nat.le_of_ble_eq_true rfl) (fun Sx V X hV hE hX => ?_)
  show V 0 [(0, .ref b), (1, .int (nI c)), (2, .int (nI w))] [] (setM h b φ μ) n 0 0
  have f0 : ¬ (inV (nI c) 0 6) = 0 := (inV_T (inV_c6 hc))
  have f1 : ¬ (inV (nI w) 0 3) = 0 := (inV_T (inV_N (lo := 0) (hi := 3) (by omega) (by omega) (by decide)))
  refine hV.aload_n 0 dX5_ifLaunched_0 rfl ?_
  refine hV.iload_n 1 dX5_ifLaunched_1 rfl ?_
  refine hV.callS1 (rest := [.ref b]) dX5_ifLaunched_2 (c_X5_isColumn G) my_X5_isColumn ks_X5_61 rfl rfl (Nat.le_of_ble_eq_true rfl) (Nat.le_of_ble_eq_true rfl) (Nat.le_of_ble_eq_true rfl) (Nat.le_of_ble_eq_true rfl) (Nat.le_of_ble_eq_true rfl) (st2 := [.int (inV (nI c) 0 6), .ref b]) (k2 := 0) (g2 := 0) rfl rfl rfl ?_
  refine hV.if_ne_t (tgt := 12) dX5_ifLaunched_5 (by decide) f0 ?_
  refine hV.iload_n 2 dX5_ifLaunched_12 rfl ?_
  refine hV.iconst (v := 0) dX5_ifLaunched_13 (by decide) ?_
  refine hV.iconst (v := 3) dX5_ifLaunched_14 (by decide) ?_
  refine hV.callS1 (rest := [.ref b]) dX5_ifLaunched_15 (c_X5_in G) my_X5_in ks_X5_39 rfl rfl (Nat.le_of_ble_eq_true rfl) (Nat.le_of_ble_eq_true rfl) (Nat.le_of_ble_eq_true rfl) (Nat.le_of_ble_eq_true rfl) (Nat.le_of_ble_eq_true rfl) (st2 := [.int (inV (nI w) 0 3), .ref b]) (k2 := 0) (g2 := 0) rfl rfl rfl ?_
  refine hV.if_eq_f (tgt := 25) dX5_ifLaunched_18 (by decide) f1 ?_
  refine hV.iconst (v := 0) dX5_ifLaunched_21 (by decide) ?_
  refine hV.goto (tgt := 26) dX5_ifLaunched_22 (by decide) ?_
  refine hV.putf dX5_ifLaunched_26 fp_X5_35 M_o (Nat.le_of_ble_eq_true rfl) rfl rfl M_f0 ?_
  refine hV.aload_n 0 dX5_ifLaunched_29 rfl ?_
  refine hV.getf (v := .int 0) dX5_ifLaunched_30 fl_X5_35 M_o rfl ?_
  refine hV.if_le_t (tgt := 40) dX5_ifLaunched_33 (by decide) (by decide) ?_
  refine hV.aload_n 0 dX5_ifLaunched_40 rfl ?_
  refine hV.iload_n 1 dX5_ifLaunched_41 rfl ?_
  refine hV.iload_n 2 dX5_ifLaunched_42 rfl ?_
  refine hV.callV1 (rest := []) dX5_ifLaunched_43 (c_X5_launched G hc hw hx0 hp0) my_X5_launched kv_X5_168 M_o rfl rfl rfl (Nat.le_of_ble_eq_true rfl) (Nat.le_of_ble_eq_true rfl) (Nat.le_of_ble_eq_true rfl) (Nat.le_of_ble_eq_true rfl) (Nat.le_of_ble_eq_true rfl) (st2 := [.int (ldV (μ 0) c w)]) (k2 := 0) (g2 := 0) rfl rfl rfl ?_
  exact hE.1 dX5_ifLaunched_46 rfl rfl (by decide) (by decide) (zRi rfl rfl rfl)

set_option maxRecDepth 100000 in
set_option maxHeartbeats 4000000 in
theorem c_X5_untilOpen_x1 {l : Launch} {D : va_G} {base : Nat} (G : l.stackTraces = false) {h : zH} {n : Nat} {b : Nat} {μ : zB} {φ : Nat → Int32} {c : Int32} (f0 : (inV c 0 6) = 0) :
    zCt l D base 9 yX5_untilOpen w_X5_untilOpen [.ref b, .int c] (setM h b φ μ) n 0 0 (zR (some (.int 0)) (setM h b (va_up φ 0 1) μ) n) := by
  refine zCt.of G (by decide) (Nat.le_of_ble_eq_true rfl) (fun Sx V X hV hE hX => ?_)
  show V 0 [(0, .ref b), (1, .int c)] [] (setM h b φ μ) n 0 0
  refine hV.aload_n 0 dX5_untilOpen_0 rfl ?_
  refine hV.iload_n 1 dX5_untilOpen_1 rfl ?_
  refine hV.callS1 (rest := [.ref b]) dX5_untilOpen_2 (c_X5_isColumn G) my_X5_isColumn ks_X5_61 rfl rfl (Nat.le_of_ble_eq_true rfl) (Nat.le_of_ble_eq_true rfl) (Nat.le_of_ble_eq_true rfl) (Nat.le_of_ble_eq_true rfl) (Nat.le_of_ble_eq_true rfl) (st2 := [.int (inV c 0 6), .ref b]) (k2 := 0) (g2 := 0) rfl rfl rfl ?_
  refine hV.if_eq_t (tgt := 12) dX5_untilOpen_5 (by decide) f0 ?_
  refine hV.iconst (v := 1) dX5_untilOpen_12 (by decide) ?_
  refine hV.putf dX5_untilOpen_13 fp_X5_35 M_o (Nat.le_of_ble_eq_true rfl) rfl rfl M_f0 ?_
  refine hV.aload_n 0 dX5_untilOpen_16 rfl ?_
  refine hV.getf (v := .int 1) dX5_untilOpen_17 fl_X5_35 M_o rfl ?_
  refine hV.if_le_f (tgt := 27) dX5_untilOpen_20 (by decide) (by decide) ?_
  refine hV.iconst (v := 0) dX5_untilOpen_23 (by decide) ?_
  refine hV.goto (tgt := 32) dX5_untilOpen_24 (by decide) ?_
  exact hE.1 dX5_untilOpen_32 rfl rfl (by decide) (by decide) (zRi rfl rfl rfl)

set_option maxRecDepth 100000 in
set_option maxHeartbeats 4000000 in
theorem c_X5_untilOpen {l : Launch} {D : va_G} {base : Nat} (G : l.stackTraces = false) {h : zH} {n : Nat} {b : Nat} {μ : zB} {φ : Nat → Int32} (hx0 : xOk (μ 0)) (hp0 : pinZ (μ 0)) {c : Nat} (hc : c < 7) :
    zCt l D base 9 yX5_untilOpen w_X5_untilOpen [.ref b, .int (nI c)] (setM h b φ μ) n 0 0 (zR (some (.int (ltV (μ 0) c))) (setM h b (va_up φ 0 0) (sa μ 1 (cpz (μ 1) (μ 0) 175))) n) := by
  refine zCt.of G (by decide) (Nat.le_of_ble_eq_true rfl) (fun Sx V X hV hE hX => ?_)
  show V 0 [(0, .ref b), (1, .int (nI c))] [] (setM h b φ μ) n 0 0
  have f0 : ¬ (inV (nI c) 0 6) = 0 := (inV_T (inV_c6 hc))
  refine hV.aload_n 0 dX5_untilOpen_0 rfl ?_
  refine hV.iload_n 1 dX5_untilOpen_1 rfl ?_
  refine hV.callS1 (rest := [.ref b]) dX5_untilOpen_2 (c_X5_isColumn G) my_X5_isColumn ks_X5_61 rfl rfl (Nat.le_of_ble_eq_true rfl) (Nat.le_of_ble_eq_true rfl) (Nat.le_of_ble_eq_true rfl) (Nat.le_of_ble_eq_true rfl) (Nat.le_of_ble_eq_true rfl) (st2 := [.int (inV (nI c) 0 6), .ref b]) (k2 := 0) (g2 := 0) rfl rfl rfl ?_
  refine hV.if_eq_f (tgt := 12) dX5_untilOpen_5 (by decide) f0 ?_
  refine hV.iconst (v := 0) dX5_untilOpen_8 (by decide) ?_
  refine hV.goto (tgt := 13) dX5_untilOpen_9 (by decide) ?_
  refine hV.putf dX5_untilOpen_13 fp_X5_35 M_o (Nat.le_of_ble_eq_true rfl) rfl rfl M_f0 ?_
  refine hV.aload_n 0 dX5_untilOpen_16 rfl ?_
  refine hV.getf (v := .int 0) dX5_untilOpen_17 fl_X5_35 M_o rfl ?_
  refine hV.if_le_t (tgt := 27) dX5_untilOpen_20 (by decide) (by decide) ?_
  refine hV.aload_n 0 dX5_untilOpen_27 rfl ?_
  refine hV.iload_n 1 dX5_untilOpen_28 rfl ?_
  refine hV.callV1 (rest := []) dX5_untilOpen_29 (c_X5_launchesToOpen G hc hx0 hp0) my_X5_launchesToOpen kv_X5_174 M_o rfl rfl rfl (Nat.le_of_ble_eq_true rfl) (Nat.le_of_ble_eq_true rfl) (Nat.le_of_ble_eq_true rfl) (Nat.le_of_ble_eq_true rfl) (Nat.le_of_ble_eq_true rfl) (st2 := [.int (ltV (μ 0) c)]) (k2 := 0) (g2 := 0) rfl rfl rfl ?_
  exact hE.1 dX5_untilOpen_32 rfl rfl (by decide) (by decide) (zRi rfl rfl rfl)

set_option maxRecDepth 100000 in
set_option maxHeartbeats 4000000 in
theorem c_X5_bestColumn {l : Launch} {D : va_G} {base : Nat} (G : l.stackTraces = false) {h : zH} {n : Nat} {b : Nat} {μ : zB} {φ : Nat → Int32} (hall : ∀ c, c < 7 → ¬ alN (wv (μ 0) c) 7 = 0) :
    zCt l D base 9 yX5_bestColumn w_X5_bestColumn [.ref b] (setM h b φ μ) n 0 0 (zRE (some (.int ((bcN (μ 0) 7).1))) (fun h' => ∃ x y, h' = setM h b (va_up φ 0 0) (sa (sa μ 5 x) 6 y)) n) := by
  refine zCt.of G (by decide) (Nat.le_of_ble_eq_true rfl) (fun Sx V X hV hE hX => ?_)
  show V 0 [(0, .ref b)] [] (setM h b φ μ) n 0 0
  refine hV.aload_n 0 dX5_bestColumn_0 rfl ?_
  refine hV.iconst (v := 0) dX5_bestColumn_1 (by decide) ?_
  refine hV.putf dX5_bestColumn_2 fp_X5_35 M_o (Nat.le_of_ble_eq_true rfl) rfl rfl M_f0 ?_
  refine hV.aload_n 0 dX5_bestColumn_5 rfl ?_
  refine hV.callV2 (rest := []) dX5_bestColumn_6 (c_X5_findBestColumn G hall) my_X5_findBestColumn kv_X5_171 M_o rfl rfl rfl (Nat.le_of_ble_eq_true rfl) (Nat.le_of_ble_eq_true rfl) (Nat.le_of_ble_eq_true rfl) (Nat.le_of_ble_eq_true rfl) (Nat.le_of_ble_eq_true rfl) (st2 := [.int ((bcN (μ 0) 7).1)]) (k2 := 0) (g2 := 0) rfl rfl rfl (fun h1 hs1 => ?_)
  obtain ⟨x1, y1, rfl⟩ := hs1
  exact hE.1 dX5_bestColumn_9 rfl rfl  (Nat.le_of_ble_eq_true rfl) (Nat.le_of_ble_eq_true rfl) (zREi rfl ⟨_, _, rfl⟩ rfl)

set_option maxRecDepth 100000 in
set_option maxHeartbeats 4000000 in
theorem c_X5_payback {l : Launch} {D : va_G} {base : Nat} (G : l.stackTraces = false) {h : zH} {n : Nat} {b : Nat} {μ : zB} {φ : Nat → Int32} (hn : ¬ μ 0 3 = 0 → vf_n64 (FP.ddiv (FP.i2d (μ 0 4)) (FP.i2d (μ 0 3)))) :
    zCt l D base 9 yX5_payback w_X5_payback [.ref b] (setM h b φ μ) n 0 0 (zR (some (.double (shV (μ 0)))) (setM h b (va_up φ 0 0) μ) n) := by
  refine zCt.of G (by decide) (Nat.le_of_ble_eq_true rfl) (fun Sx V X hV hE hX => ?_)
  show V 0 [(0, .ref b)] [] (setM h b φ μ) n 0 0
  refine hV.aload_n 0 dX5_payback_0 rfl ?_
  refine hV.iconst (v := 0) dX5_payback_1 (by decide) ?_
  refine hV.putf dX5_payback_2 fp_X5_35 M_o (Nat.le_of_ble_eq_true rfl) rfl rfl M_f0 ?_
  refine hV.aload_n 0 dX5_payback_5 rfl ?_
  refine hV.callV1 (rest := []) dX5_payback_6 (c_X5_share G (by exact hn)) my_X5_share kv_X5_177 M_o rfl rfl rfl (Nat.le_of_ble_eq_true rfl) (Nat.le_of_ble_eq_true rfl) (Nat.le_of_ble_eq_true rfl) (Nat.le_of_ble_eq_true rfl) (Nat.le_of_ble_eq_true rfl) (st2 := [.double (shV (μ 0))]) (k2 := 0) (g2 := 0) rfl rfl rfl ?_
  exact hE.2.2.1 dX5_payback_9 rfl (by decide) (by decide) (zRd rfl rfl rfl)
