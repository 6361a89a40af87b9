/-! The face: what saves first, and looks -/
theorem c_X4_checkIndex_o {l : Launch} {D : va_G} {base : Nat} (G : l.stackTraces = false) {h : zH} {n : Nat} {v : Int32} {k : Nat} (hk : k < 1000) (hb : ¬ inV v 0 (nI k) = 0) :
    zCt l D base 1 yX4_checkIndex w_X4_checkIndex [.int v, .int (nI (k + 1))] h n 0 0 (zR none h n) := by
  obtain ⟨r, hr, rfl⟩ := inV_ex (k := k) (by omega) hb
  exact c_X4_checkIndex G hk hr

set_option maxRecDepth 100000 in
set_option maxHeartbeats 4000000 in
theorem c_X4_bend_x1 {l : Launch} {D : va_G} {base : Nat} (G : l.stackTraces = false) {h : zH} {n : Nat} {a : Nat} {β τ : zB} {rf : Nat → Option Nat} {φ : Nat → Int32} {c π : zB} {sn : Option Nat} {o s : Int32} {r c1 t : Int32} (f0 : (inV r 0 7) = 0) :
    zCt l D base 8 yX4_bend w_X4_bend [.ref a, .int r, .int c1, .int t] (zTo h a β τ o s rf φ c π sn) n 1 6 (zTX "java/lang/IndexOutOfBoundsException" (zTo h a β τ o s rf φ c π sn) n) := by
  refine zCt.of G (by decide) (Nat.le_of_ble_eq_true rfl) (fun Sx V X hV hE hX => ?_)
  show V 0 [(0, .ref a), (1, .int r), (2, .int c1), (3, .int t)] [] (zTo h a β τ o s rf φ c π sn) n 0 0
  refine hV.iload_n 1 dX4_bend_0 rfl ?_
  refine hV.bipush (v := 8) dX4_bend_1 (by decide) ?_
  exact hV.callSx (rest := []) dX4_bend_3 (c_X4_checkIndex_x G (k := 7) (by decide) (by exact f0)) my_X4_checkIndex ks_X4_43 rfl rfl (Nat.le_of_ble_eq_true rfl) (Nat.le_of_ble_eq_true rfl) (Nat.le_of_ble_eq_true rfl) (Nat.le_of_ble_eq_true rfl) (Nat.le_of_ble_eq_true rfl) hX (Nat.le_of_ble_eq_true rfl) (Nat.le_of_ble_eq_true rfl) (fun n2 hn => ⟨rfl, rfl, hn⟩)

set_option maxRecDepth 100000 in
set_option maxHeartbeats 4000000 in
theorem c_X4_bend_x2 {l : Launch} {D : va_G} {base : Nat} (G : l.stackTraces = false) {h : zH} {n : Nat} {a : Nat} {β τ : zB} {rf : Nat → Option Nat} {φ : Nat → Int32} {c π : zB} {sn : Option Nat} {o s : Int32} {r c1 t : Int32} (f0 : ¬ (inV r 0 7) = 0) (f1 : (inV c1 0 6) = 0) :
    zCt l D base 8 yX4_bend w_X4_bend [.ref a, .int r, .int c1, .int t] (zTo h a β τ o s rf φ c π sn) n 1 6 (zTX "java/lang/IndexOutOfBoundsException" (zTo h a β τ o s rf φ c π sn) n) := by
  refine zCt.of G (by decide) (Nat.le_of_ble_eq_true rfl) (fun Sx V X hV hE hX => ?_)
  show V 0 [(0, .ref a), (1, .int r), (2, .int c1), (3, .int t)] [] (zTo h a β τ o s rf φ c π sn) n 0 0
  refine hV.iload_n 1 dX4_bend_0 rfl ?_
  refine hV.bipush (v := 8) dX4_bend_1 (by decide) ?_
  refine hV.callS1 (rest := []) dX4_bend_3 (c_X4_checkIndex_o G (k := 7) (by decide) (by exact f0)) my_X4_checkIndex ks_X4_43 rfl rfl (Nat.le_of_ble_eq_true rfl) (Nat.le_of_ble_eq_true rfl) (Nat.le_of_ble_eq_true rfl) (Nat.le_of_ble_eq_true rfl) (Nat.le_of_ble_eq_true rfl) (st2 := []) (k2 := 0) (g2 := 0) rfl rfl rfl ?_
  refine hV.iload_n 2 dX4_bend_6 rfl ?_
  refine hV.bipush (v := 7) dX4_bend_7 (by decide) ?_
  exact hV.callSx (rest := []) dX4_bend_9 (c_X4_checkIndex_x G (k := 6) (by decide) (by exact f1)) my_X4_checkIndex ks_X4_43 rfl rfl (Nat.le_of_ble_eq_true rfl) (Nat.le_of_ble_eq_true rfl) (Nat.le_of_ble_eq_true rfl) (Nat.le_of_ble_eq_true rfl) (Nat.le_of_ble_eq_true rfl) hX (Nat.le_of_ble_eq_true rfl) (Nat.le_of_ble_eq_true rfl) (fun n2 hn => ⟨rfl, rfl, hn⟩)

set_option maxRecDepth 100000 in
set_option maxHeartbeats 4000000 in
theorem c_X4_bend_x3 {l : Launch} {D : va_G} {base : Nat} (G : l.stackTraces = false) {h : zH} {n : Nat} {a : Nat} {β τ : zB} {rf : Nat → Option Nat} {φ : Nat → Int32} {c π : zB} {sn : Option Nat} {o s : Int32} {r c1 t : Int32} (f0 : ¬ (inV r 0 7) = 0) (f1 : ¬ (inV c1 0 6) = 0) (f2 : (inV t (-1) 1) = 0) :
    zCt l D base 8 yX4_bend w_X4_bend [.ref a, .int r, .int c1, .int t] (zTo h a β τ o s rf φ c π sn) n 1 6 (zTX "java/lang/IllegalArgumentException" (zTo h a β τ o s rf φ c π sn) n) := by
  refine zCt.of G (by decide) (Nat.le_of_ble_eq_true rfl) (fun Sx V X hV hE hX => ?_)
  show V 0 [(0, .ref a), (1, .int r), (2, .int c1), (3, .int t)] [] (zTo h a β τ o s rf φ c π sn) n 0 0
  refine hV.iload_n 1 dX4_bend_0 rfl ?_
  refine hV.bipush (v := 8) dX4_bend_1 (by decide) ?_
  refine hV.callS1 (rest := []) dX4_bend_3 (c_X4_checkIndex_o G (k := 7) (by decide) (by exact f0)) my_X4_checkIndex ks_X4_43 rfl rfl (Nat.le_of_ble_eq_true rfl) (Nat.le_of_ble_eq_true rfl) (Nat.le_of_ble_eq_true rfl) (Nat.le_of_ble_eq_true rfl) (Nat.le_of_ble_eq_true rfl) (st2 := []) (k2 := 0) (g2 := 0) rfl rfl rfl ?_
  refine hV.iload_n 2 dX4_bend_6 rfl ?_
  refine hV.bipush (v := 7) dX4_bend_7 (by decide) ?_
  refine hV.callS1 (rest := []) dX4_bend_9 (c_X4_checkIndex_o G (k := 6) (by decide) (by exact f1)) my_X4_checkIndex ks_X4_43 rfl rfl (Nat.le_of_ble_eq_true rfl) (Nat.le_of_ble_eq_true rfl) (Nat.le_of_ble_eq_true rfl) (Nat.le_of_ble_eq_true rfl) (Nat.le_of_ble_eq_true rfl) (st2 := []) (k2 := 0) (g2 := 0) rfl rfl rfl ?_
  refine hV.iload_n 3 dX4_bend_12 rfl ?_
  refine hV.iconst (v := (-1)) dX4_bend_13 (by decide) ?_
  refine hV.iconst (v := 1) dX4_bend_14 (by decide) ?_
  exact hV.callSx (rest := []) dX4_bend_15 (c_X4_checkValue_x G (by exact f2)) my_X4_checkValue ks_X4_47 rfl rfl (Nat.le_of_ble_eq_true rfl) (Nat.le_of_ble_eq_true rfl) (Nat.le_of_ble_eq_true rfl) (Nat.le_of_ble_eq_true rfl) (Nat.le_of_ble_eq_true rfl) hX (Nat.le_of_ble_eq_true rfl) (Nat.le_of_ble_eq_true rfl) (fun n2 hn => ⟨rfl, rfl, hn⟩)

set_option maxRecDepth 100000 in
set_option maxHeartbeats 4000000 in
theorem c_X4_bend {l : Launch} {D : va_G} {base : Nat} (G : l.stackTraces = false) {h : zH} {n : Nat} {a : Nat} {β τ : zB} {rf : Nat → Option Nat} {φ : Nat → Int32} {c π : zB} {sn : Option Nat} {ρ : Nat → zB} {κ : zB} {u v : Nat} (hu : u < 6) (hv : v ≤ 6) (hx : zExt a n h rf sn ρ κ) {r c1 m : Nat} {t : Int32} (hr : r < 8) (hc : c1 < 7) (hm : β 0 16 = nI m) (hm3 : m ≤ 56) (hm2 : β 1 (r * 7 + c1) = 0 → m < 56) (f2 : ¬ (inV t (-1) 1) = 0) :
    zCt l D base 8 yX4_bend w_X4_bend [.ref a, .int (nI r), .int (nI c1), .int t] (zTo h a β τ (nI u) (nI v) rf φ c π sn) n 11 235 (zRT (some (.int (β 1 (r * 7 + c1) + 1))) (fun h' n' => ∃ h2 rf2, h' = zTo h2 a (bendB β (r * 7 + c1) m t) τ (if v < 6 then nI u else nI ((u + 1) % 6)) (if v < 6 then nI (v + 1) else nI v) rf2 φ c π sn ∧ zSv a n h rf sn ρ κ ((u + v) % 6) β h2 rf2 n')) := by
  refine zCt.of G (by decide) (Nat.le_of_ble_eq_true rfl) (fun Sx V X hV hE hX => ?_)
  show V 0 [(0, .ref a), (1, .int (nI r)), (2, .int (nI c1)), (3, .int t)] [] (zTo h a β τ (nI u) (nI v) rf φ c π sn) n 0 0
  have f0 : ¬ (inV (nI r) 0 7) = 0 := (inV_T (inV_r7 hr))
  have f1 : ¬ (inV (nI c1) 0 6) = 0 := (inV_T (inV_c6 hc))
  refine hV.iload_n 1 dX4_bend_0 rfl ?_
  refine hV.bipush (v := 8) dX4_bend_1 (by decide) ?_
  refine hV.callS1 (rest := []) dX4_bend_3 (c_X4_checkIndex_o G (k := 7) (by decide) (by exact f0)) my_X4_checkIndex ks_X4_43 rfl rfl (Nat.le_of_ble_eq_true rfl) (Nat.le_of_ble_eq_true rfl) (Nat.le_of_ble_eq_true rfl) (Nat.le_of_ble_eq_true rfl) (Nat.le_of_ble_eq_true rfl) (st2 := []) (k2 := 0) (g2 := 0) rfl rfl rfl ?_
  refine hV.iload_n 2 dX4_bend_6 rfl ?_
  refine hV.bipush (v := 7) dX4_bend_7 (by decide) ?_
  refine hV.callS1 (rest := []) dX4_bend_9 (c_X4_checkIndex_o G (k := 6) (by decide) (by exact f1)) my_X4_checkIndex ks_X4_43 rfl rfl (Nat.le_of_ble_eq_true rfl) (Nat.le_of_ble_eq_true rfl) (Nat.le_of_ble_eq_true rfl) (Nat.le_of_ble_eq_true rfl) (Nat.le_of_ble_eq_true rfl) (st2 := []) (k2 := 0) (g2 := 0) rfl rfl rfl ?_
  refine hV.iload_n 3 dX4_bend_12 rfl ?_
  refine hV.iconst (v := (-1)) dX4_bend_13 (by decide) ?_
  refine hV.iconst (v := 1) dX4_bend_14 (by decide) ?_
  refine hV.callS1 (rest := []) dX4_bend_15 (c_X4_checkValue G (by exact f2)) my_X4_checkValue ks_X4_47 rfl rfl (Nat.le_of_ble_eq_true rfl) (Nat.le_of_ble_eq_true rfl) (Nat.le_of_ble_eq_true rfl) (Nat.le_of_ble_eq_true rfl) (Nat.le_of_ble_eq_true rfl) (st2 := []) (k2 := 0) (g2 := 0) rfl rfl rfl ?_
  refine hV.aload_n 0 dX4_bend_18 rfl ?_
  refine hV.getf (v := .ref (a + 23)) dX4_bend_19 fl_X4_22 To_o rfl ?_
  refine hV.aload_n 0 dX4_bend_22 rfl ?_
  refine hV.getf (v := .ref (a + 1)) dX4_bend_23 fl_X4_12 To_o rfl ?_
  refine hV.callV3 (rest := []) dX4_bend_26 (c_X1_save G hu hv hx) my_X1_save kv_X4_51 To_h rfl rfl rfl (Nat.le_of_ble_eq_true rfl) (Nat.le_of_ble_eq_true rfl) (Nat.le_of_ble_eq_true rfl) (Nat.le_of_ble_eq_true rfl) (Nat.le_of_ble_eq_true rfl) (st2 := []) (k2 := 11) (g2 := 235) rfl rfl rfl (fun h1 n1 hn1 hs1 => ?_)
  obtain ⟨hh1, rr1, rfl, sv1⟩ := hs1
  refine hV.aload_n 0 dX4_bend_29 rfl ?_
  refine hV.getf (v := .ref (a + 1)) dX4_bend_30 fl_X4_12 To_o rfl ?_
  refine hV.iload_n 1 dX4_bend_33 rfl ?_
  refine hV.bipush (v := 7) dX4_bend_34 (by decide) ?_
  refine hV.imulN (a := r) (b := 7) dX4_bend_36 ?_
  refine hV.iload_n 2 dX4_bend_37 rfl ?_
  refine hV.iaddN (a := r * 7) (b := c1) dX4_bend_38 ?_
  refine hV.iload_n 3 dX4_bend_39 rfl ?_
  refine zHeap (h2 := setB (zTo hh1 a β τ (if v < 6 then nI u else nI ((u + 1) % 6)) (if v < 6 then nI (v + 1) else nI v) rr1 φ c π sn) (a + 1) β) (To_B.set.symm) ?_
  refine hV.callV1 (rest := []) dX4_bend_40 (c_X0_bendPin G (i := (r * 7) + c1) (by omega) hm hm3 hm2) my_X0_bendPin kv_X4_55 B_o rfl rfl rfl (Nat.le_of_ble_eq_true rfl) (Nat.le_of_ble_eq_true rfl) (Nat.le_of_ble_eq_true rfl) (Nat.le_of_ble_eq_true rfl) (Nat.le_of_ble_eq_true rfl) (st2 := [.int (β 1 ((r * 7) + c1))]) (k2 := 11) (g2 := 235) rfl rfl rfl ?_
  refine zHeap (h2 := zTo hh1 a (bendB β ((r * 7) + c1) m t) τ (if v < 6 then nI u else nI ((u + 1) % 6)) (if v < 6 then nI (v + 1) else nI v) rr1 φ c π sn) To_B' ?_
  refine hV.iconst (v := 1) dX4_bend_43 (by decide) ?_
  refine hV.iadd dX4_bend_44 ?_
  exact hE.1 dX4_bend_45 rfl rfl (Nat.le_of_ble_eq_true rfl) (Nat.le_of_ble_eq_true rfl) (zRTi rfl ⟨_, _, rfl, sv1⟩)

set_option maxRecDepth 100000 in
set_option maxHeartbeats 4000000 in
theorem c_X4_pocket_x1 {l : Launch} {D : va_G} {base : Nat} (G : l.stackTraces = false) {h : zH} {n : Nat} {a : Nat} {β τ : zB} {rf : Nat → Option Nat} {φ : Nat → Int32} {c π : zB} {sn : Option Nat} {o s : Int32} {p q w : Int32} (f0 : (inV p 0 6) = 0) :
    zCt l D base 8 yX4_pocket w_X4_pocket [.ref a, .int p, .int q, .int w] (zTo h a β τ o s rf φ c π sn) n 1 6 (zTX "java/lang/IndexOutOfBoundsException" (zTo h a β τ o s rf φ c π sn) n) := by
  refine zCt.of G (by decide) (Nat.le_of_ble_eq_true rfl) (fun Sx V X hV hE hX => ?_)
  show V 0 [(0, .ref a), (1, .int p), (2, .int q), (3, .int w)] [] (zTo h a β τ o s rf φ c π sn) n 0 0
  refine hV.iload_n 1 dX4_pocket_0 rfl ?_
  refine hV.bipush (v := 7) dX4_pocket_1 (by decide) ?_
  exact hV.callSx (rest := []) dX4_pocket_3 (c_X4_checkIndex_x G (k := 6) (by decide) (by exact f0)) my_X4_checkIndex ks_X4_43 rfl rfl (Nat.le_of_ble_eq_true rfl) (Nat.le_of_ble_eq_true rfl) (Nat.le_of_ble_eq_true rfl) (Nat.le_of_ble_eq_true rfl) (Nat.le_of_ble_eq_true rfl) hX (Nat.le_of_ble_eq_true rfl) (Nat.le_of_ble_eq_true rfl) (fun n2 hn => ⟨rfl, rfl, hn⟩)

set_option maxRecDepth 100000 in
set_option maxHeartbeats 4000000 in
theorem c_X4_pocket_x2 {l : Launch} {D : va_G} {base : Nat} (G : l.stackTraces = false) {h : zH} {n : Nat} {a : Nat} {β τ : zB} {rf : Nat → Option Nat} {φ : Nat → Int32} {c π : zB} {sn : Option Nat} {o s : Int32} {p q w : Int32} (f0 : ¬ (inV p 0 6) = 0) (f1 : (inV q 0 2) = 0) :
    zCt l D base 8 yX4_pocket w_X4_pocket [.ref a, .int p, .int q, .int w] (zTo h a β τ o s rf φ c π sn) n 1 6 (zTX "java/lang/IllegalArgumentException" (zTo h a β τ o s rf φ c π sn) n) := by
  refine zCt.of G (by decide) (Nat.le_of_ble_eq_true rfl) (fun Sx V X hV hE hX => ?_)
  show V 0 [(0, .ref a), (1, .int p), (2, .int q), (3, .int w)] [] (zTo h a β τ o s rf φ c π sn) n 0 0
  refine hV.iload_n 1 dX4_pocket_0 rfl ?_
  refine hV.bipush (v := 7) dX4_pocket_1 (by decide) ?_
  refine hV.callS1 (rest := []) dX4_pocket_3 (c_X4_checkIndex_o G (k := 6) (by decide) (by exact f0)) my_X4_checkIndex ks_X4_43 rfl rfl (Nat.le_of_ble_eq_true rfl) (Nat.le_of_ble_eq_true rfl) (Nat.le_of_ble_eq_true rfl) (Nat.le_of_ble_eq_true rfl) (Nat.le_of_ble_eq_true rfl) (st2 := []) (k2 := 0) (g2 := 0) rfl rfl rfl ?_
  refine hV.iload_n 2 dX4_pocket_6 rfl ?_
  refine hV.iconst (v := 0) dX4_pocket_7 (by decide) ?_
  refine hV.iconst (v := 2) dX4_pocket_8 (by decide) ?_
  exact hV.callSx (rest := []) dX4_pocket_9 (c_X4_checkValue_x G (by exact f1)) my_X4_checkValue ks_X4_47 rfl rfl (Nat.le_of_ble_eq_true rfl) (Nat.le_of_ble_eq_true rfl) (Nat.le_of_ble_eq_true rfl) (Nat.le_of_ble_eq_true rfl) (Nat.le_of_ble_eq_true rfl) hX (Nat.le_of_ble_eq_true rfl) (Nat.le_of_ble_eq_true rfl) (fun n2 hn => ⟨rfl, rfl, hn⟩)

set_option maxRecDepth 100000 in
set_option maxHeartbeats 4000000 in
theorem c_X4_pocket_x3 {l : Launch} {D : va_G} {base : Nat} (G : l.stackTraces = false) {h : zH} {n : Nat} {a : Nat} {β τ : zB} {rf : Nat → Option Nat} {φ : Nat → Int32} {c π : zB} {sn : Option Nat} {o s : Int32} {p q w : Int32} (f0 : ¬ (inV p 0 6) = 0) (f1 : ¬ (inV q 0 2) = 0) (f2 : (inV w 0 15) = 0) :
    zCt l D base 8 yX4_pocket w_X4_pocket [.ref a, .int p, .int q, .int w] (zTo h a β τ o s rf φ c π sn) n 1 6 (zTX "java/lang/IllegalArgumentException" (zTo h a β τ o s rf φ c π sn) n) := by
  refine zCt.of G (by decide) (Nat.le_of_ble_eq_true rfl) (fun Sx V X hV hE hX => ?_)
  show V 0 [(0, .ref a), (1, .int p), (2, .int q), (3, .int w)] [] (zTo h a β τ o s rf φ c π sn) n 0 0
  refine hV.iload_n 1 dX4_pocket_0 rfl ?_
  refine hV.bipush (v := 7) dX4_pocket_1 (by decide) ?_
  refine hV.callS1 (rest := []) dX4_pocket_3 (c_X4_checkIndex_o G (k := 6) (by decide) (by exact f0)) my_X4_checkIndex ks_X4_43 rfl rfl (Nat.le_of_ble_eq_true rfl) (Nat.le_of_ble_eq_true rfl) (Nat.le_of_ble_eq_true rfl) (Nat.le_of_ble_eq_true rfl) (Nat.le_of_ble_eq_true rfl) (st2 := []) (k2 := 0) (g2 := 0) rfl rfl rfl ?_
  refine hV.iload_n 2 dX4_pocket_6 rfl ?_
  refine hV.iconst (v := 0) dX4_pocket_7 (by decide) ?_
  refine hV.iconst (v := 2) dX4_pocket_8 (by decide) ?_
  refine hV.callS1 (rest := []) dX4_pocket_9 (c_X4_checkValue G (by exact f1)) my_X4_checkValue ks_X4_47 rfl rfl (Nat.le_of_ble_eq_true rfl) (Nat.le_of_ble_eq_true rfl) (Nat.le_of_ble_eq_true rfl) (Nat.le_of_ble_eq_true rfl) (Nat.le_of_ble_eq_true rfl) (st2 := []) (k2 := 0) (g2 := 0) rfl rfl rfl ?_
  refine hV.iload_n 3 dX4_pocket_12 rfl ?_
  refine hV.iconst (v := 0) dX4_pocket_13 (by decide) ?_
  refine hV.bipush (v := 15) dX4_pocket_14 (by decide) ?_
  exact hV.callSx (rest := []) dX4_pocket_16 (c_X4_checkValue_x G (by exact f2)) my_X4_checkValue ks_X4_47 rfl rfl (Nat.le_of_ble_eq_true rfl) (Nat.le_of_ble_eq_true rfl) (Nat.le_of_ble_eq_true rfl) (Nat.le_of_ble_eq_true rfl) (Nat.le_of_ble_eq_true rfl) hX (Nat.le_of_ble_eq_true rfl) (Nat.le_of_ble_eq_true rfl) (fun n2 hn => ⟨rfl, rfl, hn⟩)

set_option maxRecDepth 100000 in
set_option maxHeartbeats 4000000 in
theorem c_X4_pocket {l : Launch} {D : va_G} {base : Nat} (G : l.stackTraces = false) {h : zH} {n : Nat} {a : Nat} {β τ : zB} {rf : Nat → Option Nat} {φ : Nat → Int32} {c π : zB} {sn : Option Nat} {ρ : Nat → zB} {κ : zB} {u v : Nat} (hu : u < 6) (hv : v ≤ 6) (hx : zExt a n h rf sn ρ κ) {p : Nat} {q w : Int32} (hp : p < 7) (f1 : ¬ (inV q 0 2) = 0) (f2 : ¬ (inV w 0 15) = 0) :
    zCt l D base 8 yX4_pocket w_X4_pocket [.ref a, .int (nI p), .int q, .int w] (zTo h a β τ (nI u) (nI v) rf φ c π sn) n 11 235 (zRT (some (.int (β 5 p))) (fun h' n' => ∃ h2 rf2, h' = zTo h2 a (chPocketB β p q w) τ (if v < 6 then nI u else nI ((u + 1) % 6)) (if v < 6 then nI (v + 1) else nI v) rf2 φ c π sn ∧ zSv a n h rf sn ρ κ ((u + v) % 6) β h2 rf2 n')) := by
  refine zCt.of G (by decide) (Nat.le_of_ble_eq_true rfl) (fun Sx V X hV hE hX => ?_)
  show V 0 [(0, .ref a), (1, .int (nI p)), (2, .int q), (3, .int w)] [] (zTo h a β τ (nI u) (nI v) rf φ c π sn) n 0 0
  have f0 : ¬ (inV (nI p) 0 6) = 0 := (inV_T (inV_c6 hp))
  refine hV.iload_n 1 dX4_pocket_0 rfl ?_
  refine hV.bipush (v := 7) dX4_pocket_1 (by decide) ?_
  refine hV.callS1 (rest := []) dX4_pocket_3 (c_X4_checkIndex_o G (k := 6) (by decide) (by exact f0)) my_X4_checkIndex ks_X4_43 rfl rfl (Nat.le_of_ble_eq_true rfl) (Nat.le_of_ble_eq_true rfl) (Nat.le_of_ble_eq_true rfl) (Nat.le_of_ble_eq_true rfl) (Nat.le_of_ble_eq_true rfl) (st2 := []) (k2 := 0) (g2 := 0) rfl rfl rfl ?_
  refine hV.iload_n 2 dX4_pocket_6 rfl ?_
  refine hV.iconst (v := 0) dX4_pocket_7 (by decide) ?_
  refine hV.iconst (v := 2) dX4_pocket_8 (by decide) ?_
  refine hV.callS1 (rest := []) dX4_pocket_9 (c_X4_checkValue G (by exact f1)) my_X4_checkValue ks_X4_47 rfl rfl (Nat.le_of_ble_eq_true rfl) (Nat.le_of_ble_eq_true rfl) (Nat.le_of_ble_eq_true rfl) (Nat.le_of_ble_eq_true rfl) (Nat.le_of_ble_eq_true rfl) (st2 := []) (k2 := 0) (g2 := 0) rfl rfl rfl ?_
  refine hV.iload_n 3 dX4_pocket_12 rfl ?_
  refine hV.iconst (v := 0) dX4_pocket_13 (by decide) ?_
  refine hV.bipush (v := 15) dX4_pocket_14 (by decide) ?_
  refine hV.callS1 (rest := []) dX4_pocket_16 (c_X4_checkValue G (by exact f2)) my_X4_checkValue ks_X4_47 rfl rfl (Nat.le_of_ble_eq_true rfl) (Nat.le_of_ble_eq_true rfl) (Nat.le_of_ble_eq_true rfl) (Nat.le_of_ble_eq_true rfl) (Nat.le_of_ble_eq_true rfl) (st2 := []) (k2 := 0) (g2 := 0) rfl rfl rfl ?_
  refine hV.aload_n 0 dX4_pocket_19 rfl ?_
  refine hV.getf (v := .ref (a + 23)) dX4_pocket_20 fl_X4_22 To_o rfl ?_
  refine hV.aload_n 0 dX4_pocket_23 rfl ?_
  refine hV.getf (v := .ref (a + 1)) dX4_pocket_24 fl_X4_12 To_o rfl ?_
  refine hV.callV3 (rest := []) dX4_pocket_27 (c_X1_save G hu hv hx) my_X1_save kv_X4_51 To_h rfl rfl rfl (Nat.le_of_ble_eq_true rfl) (Nat.le_of_ble_eq_true rfl) (Nat.le_of_ble_eq_true rfl) (Nat.le_of_ble_eq_true rfl) (Nat.le_of_ble_eq_true rfl) (st2 := []) (k2 := 11) (g2 := 235) rfl rfl rfl (fun h1 n1 hn1 hs1 => ?_)
  obtain ⟨hh1, rr1, rfl, sv1⟩ := hs1
  refine hV.aload_n 0 dX4_pocket_30 rfl ?_
  refine hV.getf (v := .ref (a + 1)) dX4_pocket_31 fl_X4_12 To_o rfl ?_
  refine hV.iload_n 1 dX4_pocket_34 rfl ?_
  refine hV.iload_n 2 dX4_pocket_35 rfl ?_
  refine hV.iload_n 3 dX4_pocket_36 rfl ?_
  refine zHeap (h2 := setB (zTo hh1 a β τ (if v < 6 then nI u else nI ((u + 1) % 6)) (if v < 6 then nI (v + 1) else nI v) rr1 φ c π sn) (a + 1) β) (To_B.set.symm) ?_
  refine hV.callV1 (rest := []) dX4_pocket_37 (c_X0_changePocket G (p := p) (by omega)) my_X0_changePocket kv_X4_59 B_o rfl rfl rfl (Nat.le_of_ble_eq_true rfl) (Nat.le_of_ble_eq_true rfl) (Nat.le_of_ble_eq_true rfl) (Nat.le_of_ble_eq_true rfl) (Nat.le_of_ble_eq_true rfl) (st2 := [.int (β 5 p)]) (k2 := 11) (g2 := 235) rfl rfl rfl ?_
  refine zHeap (h2 := zTo hh1 a (chPocketB β p q w) τ (if v < 6 then nI u else nI ((u + 1) % 6)) (if v < 6 then nI (v + 1) else nI v) rr1 φ c π sn) To_B' ?_
  exact hE.1 dX4_pocket_40 rfl rfl (Nat.le_of_ble_eq_true rfl) (Nat.le_of_ble_eq_true rfl) (zRTi rfl ⟨_, _, rfl, sv1⟩)

set_option maxRecDepth 100000 in
set_option maxHeartbeats 4000000 in
theorem c_X4_start_x1 {l : Launch} {D : va_G} {base : Nat} (G : l.stackTraces = false) {h : zH} {n : Nat} {a : Nat} {β τ : zB} {rf : Nat → Option Nat} {φ : Nat → Int32} {c π : zB} {sn : Option Nat} {o s : Int32} {w : Int32} (f0 : (inV w 0 6) = 0) :
    zCt l D base 8 yX4_start w_X4_start [.ref a, .int w] (zTo h a β τ o s rf φ c π sn) n 1 6 (zTX "java/lang/IndexOutOfBoundsException" (zTo h a β τ o s rf φ c π sn) n) := by
  refine zCt.of G (by decide) (Nat.le_of_ble_eq_true rfl) (fun Sx V X hV hE hX => ?_)
  show V 0 [(0, .ref a), (1, .int w)] [] (zTo h a β τ o s rf φ c π sn) n 0 0
  refine hV.iload_n 1 dX4_start_0 rfl ?_
  refine hV.bipush (v := 7) dX4_start_1 (by decide) ?_
  exact hV.callSx (rest := []) dX4_start_3 (c_X4_checkIndex_x G (k := 6) (by decide) (by exact f0)) my_X4_checkIndex ks_X4_43 rfl rfl (Nat.le_of_ble_eq_true rfl) (Nat.le_of_ble_eq_true rfl) (Nat.le_of_ble_eq_true rfl) (Nat.le_of_ble_eq_true rfl) (Nat.le_of_ble_eq_true rfl) hX (Nat.le_of_ble_eq_true rfl) (Nat.le_of_ble_eq_true rfl) (fun n2 hn => ⟨rfl, rfl, hn⟩)

set_option maxRecDepth 100000 in
set_option maxHeartbeats 4000000 in
theorem c_X4_start {l : Launch} {D : va_G} {base : Nat} (G : l.stackTraces = false) {h : zH} {n : Nat} {a : Nat} {β τ : zB} {rf : Nat → Option Nat} {φ : Nat → Int32} {c π : zB} {sn : Option Nat} {ρ : Nat → zB} {κ : zB} {u v : Nat} (hu : u < 6) (hv : v ≤ 6) (hx : zExt a n h rf sn ρ κ) {w : Int32} (f0 : ¬ (inV w 0 6) = 0) :
    zCt l D base 8 yX4_start w_X4_start [.ref a, .int w] (zTo h a β τ (nI u) (nI v) rf φ c π sn) n 11 235 (zRT (some (.int (β 0 12))) (fun h' n' => ∃ h2 rf2, h' = zTo h2 a (up2 β 0 12 w) τ (if v < 6 then nI u else nI ((u + 1) % 6)) (if v < 6 then nI (v + 1) else nI v) rf2 φ c π sn ∧ zSv a n h rf sn ρ κ ((u + v) % 6) β h2 rf2 n')) := by
  refine zCt.of G (by decide) (Nat.le_of_ble_eq_true rfl) (fun Sx V X hV hE hX => ?_)
  show V 0 [(0, .ref a), (1, .int w)] [] (zTo h a β τ (nI u) (nI v) rf φ c π sn) n 0 0
  refine hV.iload_n 1 dX4_start_0 rfl ?_
  refine hV.bipush (v := 7) dX4_start_1 (by decide) ?_
  refine hV.callS1 (rest := []) dX4_start_3 (c_X4_checkIndex_o G (k := 6) (by decide) (by exact f0)) my_X4_checkIndex ks_X4_43 rfl rfl (Nat.le_of_ble_eq_true rfl) (Nat.le_of_ble_eq_true rfl) (Nat.le_of_ble_eq_true rfl) (Nat.le_of_ble_eq_true rfl) (Nat.le_of_ble_eq_true rfl) (st2 := []) (k2 := 0) (g2 := 0) rfl rfl rfl ?_
  refine hV.aload_n 0 dX4_start_6 rfl ?_
  refine hV.getf (v := .ref (a + 23)) dX4_start_7 fl_X4_22 To_o rfl ?_
  refine hV.aload_n 0 dX4_start_10 rfl ?_
  refine hV.getf (v := .ref (a + 1)) dX4_start_11 fl_X4_12 To_o rfl ?_
  refine hV.callV3 (rest := []) dX4_start_14 (c_X1_save G hu hv hx) my_X1_save kv_X4_51 To_h rfl rfl rfl (Nat.le_of_ble_eq_true rfl) (Nat.le_of_ble_eq_true rfl) (Nat.le_of_ble_eq_true rfl) (Nat.le_of_ble_eq_true rfl) (Nat.le_of_ble_eq_true rfl) (st2 := []) (k2 := 11) (g2 := 235) rfl rfl rfl (fun h1 n1 hn1 hs1 => ?_)
  obtain ⟨hh1, rr1, rfl, sv1⟩ := hs1
  refine hV.aload_n 0 dX4_start_17 rfl ?_
  refine hV.getf (v := .ref (a + 1)) dX4_start_18 fl_X4_12 To_o rfl ?_
  refine hV.bipush (v := 12) dX4_start_21 (by decide) ?_
  refine hV.iload_n 1 dX4_start_23 rfl ?_
  refine zHeap (h2 := setB (zTo hh1 a β τ (if v < 6 then nI u else nI ((u + 1) % 6)) (if v < 6 then nI (v + 1) else nI v) rr1 φ c π sn) (a + 1) β) (To_B.set.symm) ?_
  refine hV.callV1 (rest := []) dX4_start_24 (c_X0_change G (i := 12) (by omega)) my_X0_change kv_X4_63 B_o rfl rfl rfl (Nat.le_of_ble_eq_true rfl) (Nat.le_of_ble_eq_true rfl) (Nat.le_of_ble_eq_true rfl) (Nat.le_of_ble_eq_true rfl) (Nat.le_of_ble_eq_true rfl) (st2 := [.int (β 0 12)]) (k2 := 11) (g2 := 235) rfl rfl rfl ?_
  refine zHeap (h2 := zTo hh1 a (up2 β 0 12 w) τ (if v < 6 then nI u else nI ((u + 1) % 6)) (if v < 6 then nI (v + 1) else nI v) rr1 φ c π sn) To_B' ?_
  exact hE.1 dX4_start_27 rfl rfl (Nat.le_of_ble_eq_true rfl) (Nat.le_of_ble_eq_true rfl) (zRTi rfl ⟨_, _, rfl, sv1⟩)

set_option maxRecDepth 100000 in
set_option maxHeartbeats 4000000 in
theorem c_X4_set_x1 {l : Launch} {D : va_G} {base : Nat} (G : l.stackTraces = false) {h : zH} {n : Nat} {a : Nat} {β τ : zB} {rf : Nat → Option Nat} {φ : Nat → Int32} {c π : zB} {sn : Option Nat} {o s : Int32} {i w : Int32} (f0 : (inV i 0 1) = 0) :
    zCt l D base 8 yX4_set w_X4_set [.ref a, .int i, .int w] (zTo h a β τ o s rf φ c π sn) n 1 6 (zTX "java/lang/IndexOutOfBoundsException" (zTo h a β τ o s rf φ c π sn) n) := by
  refine zCt.of G (by decide) (Nat.le_of_ble_eq_true rfl) (fun Sx V X hV hE hX => ?_)
  show V 0 [(0, .ref a), (1, .int i), (2, .int w)] [] (zTo h a β τ o s rf φ c π sn) n 0 0
  refine hV.iload_n 1 dX4_set_0 rfl ?_
  refine hV.iconst (v := 2) dX4_set_1 (by decide) ?_
  exact hV.callSx (rest := []) dX4_set_2 (c_X4_checkIndex_x G (k := 1) (by decide) (by exact f0)) my_X4_checkIndex ks_X4_43 rfl rfl (Nat.le_of_ble_eq_true rfl) (Nat.le_of_ble_eq_true rfl) (Nat.le_of_ble_eq_true rfl) (Nat.le_of_ble_eq_true rfl) (Nat.le_of_ble_eq_true rfl) hX (Nat.le_of_ble_eq_true rfl) (Nat.le_of_ble_eq_true rfl) (fun n2 hn => ⟨rfl, rfl, hn⟩)

set_option maxRecDepth 100000 in
set_option maxHeartbeats 4000000 in
theorem c_X4_set_x2 {l : Launch} {D : va_G} {base : Nat} (G : l.stackTraces = false) {h : zH} {n : Nat} {a : Nat} {β τ : zB} {rf : Nat → Option Nat} {φ : Nat → Int32} {c π : zB} {sn : Option Nat} {o s : Int32} {w : Int32} (f1 : (inV w 1 10) = 0) :
    zCt l D base 8 yX4_set w_X4_set [.ref a, .int 0, .int w] (zTo h a β τ o s rf φ c π sn) n 1 6 (zTX "java/lang/IllegalArgumentException" (zTo h a β τ o s rf φ c π sn) n) := by
  refine zCt.of G (by decide) (Nat.le_of_ble_eq_true rfl) (fun Sx V X hV hE hX => ?_)
  show V 0 [(0, .ref a), (1, .int 0), (2, .int w)] [] (zTo h a β τ o s rf φ c π sn) n 0 0
  have f0 : ¬ (inV 0 0 1) = 0 := (by decide)
  refine hV.iload_n 1 dX4_set_0 rfl ?_
  refine hV.iconst (v := 2) dX4_set_1 (by decide) ?_
  refine hV.callS1 (rest := []) dX4_set_2 (c_X4_checkIndex_o G (k := 1) (by decide) (by exact f0)) my_X4_checkIndex ks_X4_43 rfl rfl (Nat.le_of_ble_eq_true rfl) (Nat.le_of_ble_eq_true rfl) (Nat.le_of_ble_eq_true rfl) (Nat.le_of_ble_eq_true rfl) (Nat.le_of_ble_eq_true rfl) (st2 := []) (k2 := 0) (g2 := 0) rfl rfl rfl ?_
  refine hV.iload_n 1 dX4_set_5 rfl ?_
  refine hV.if_ne_f (tgt := 19) dX4_set_6 (by decide) (by decide) ?_
  refine hV.iload_n 2 dX4_set_9 rfl ?_
  refine hV.iconst (v := 1) dX4_set_10 (by decide) ?_
  refine hV.bipush (v := 10) dX4_set_11 (by decide) ?_
  exact hV.callSx (rest := []) dX4_set_13 (c_X4_checkValue_x G (by exact f1)) my_X4_checkValue ks_X4_47 rfl rfl (Nat.le_of_ble_eq_true rfl) (Nat.le_of_ble_eq_true rfl) (Nat.le_of_ble_eq_true rfl) (Nat.le_of_ble_eq_true rfl) (Nat.le_of_ble_eq_true rfl) hX (Nat.le_of_ble_eq_true rfl) (Nat.le_of_ble_eq_true rfl) (fun n2 hn => ⟨rfl, rfl, hn⟩)

set_option maxRecDepth 100000 in
set_option maxHeartbeats 4000000 in
theorem c_X4_set_x3 {l : Launch} {D : va_G} {base : Nat} (G : l.stackTraces = false) {h : zH} {n : Nat} {a : Nat} {β τ : zB} {rf : Nat → Option Nat} {φ : Nat → Int32} {c π : zB} {sn : Option Nat} {o s : Int32} {w : Int32} (f1 : (inV w 0 20) = 0) :
    zCt l D base 8 yX4_set w_X4_set [.ref a, .int 1, .int w] (zTo h a β τ o s rf φ c π sn) n 1 6 (zTX "java/lang/IllegalArgumentException" (zTo h a β τ o s rf φ c π sn) n) := by
  refine zCt.of G (by decide) (Nat.le_of_ble_eq_true rfl) (fun Sx V X hV hE hX => ?_)
  show V 0 [(0, .ref a), (1, .int 1), (2, .int w)] [] (zTo h a β τ o s rf φ c π sn) n 0 0
  have f0 : ¬ (inV 1 0 1) = 0 := (by decide)
  refine hV.iload_n 1 dX4_set_0 rfl ?_
  refine hV.iconst (v := 2) dX4_set_1 (by decide) ?_
  refine hV.callS1 (rest := []) dX4_set_2 (c_X4_checkIndex_o G (k := 1) (by decide) (by exact f0)) my_X4_checkIndex ks_X4_43 rfl rfl (Nat.le_of_ble_eq_true rfl) (Nat.le_of_ble_eq_true rfl) (Nat.le_of_ble_eq_true rfl) (Nat.le_of_ble_eq_true rfl) (Nat.le_of_ble_eq_true rfl) (st2 := []) (k2 := 0) (g2 := 0) rfl rfl rfl ?_
  refine hV.iload_n 1 dX4_set_5 rfl ?_
  refine hV.if_ne_t (tgt := 19) dX4_set_6 (by decide) (by decide) ?_
  refine hV.iload_n 2 dX4_set_19 rfl ?_
  refine hV.iconst (v := 0) dX4_set_20 (by decide) ?_
  refine hV.bipush (v := 20) dX4_set_21 (by decide) ?_
  exact hV.callSx (rest := []) dX4_set_23 (c_X4_checkValue_x G (by exact f1)) my_X4_checkValue ks_X4_47 rfl rfl (Nat.le_of_ble_eq_true rfl) (Nat.le_of_ble_eq_true rfl) (Nat.le_of_ble_eq_true rfl) (Nat.le_of_ble_eq_true rfl) (Nat.le_of_ble_eq_true rfl) hX (Nat.le_of_ble_eq_true rfl) (Nat.le_of_ble_eq_true rfl) (fun n2 hn => ⟨rfl, rfl, hn⟩)

set_option maxRecDepth 100000 in
set_option maxHeartbeats 4000000 in
theorem c_X4_set_0 {l : Launch} {D : va_G} {base : Nat} (G : l.stackTraces = false) {h : zH} {n : Nat} {a : Nat} {β τ : zB} {rf : Nat → Option Nat} {φ : Nat → Int32} {c π : zB} {sn : Option Nat} {ρ : Nat → zB} {κ : zB} {u v : Nat} (hu : u < 6) (hv : v ≤ 6) (hx : zExt a n h rf sn ρ κ) {w : Int32} (f1 : ¬ (inV w 1 10) = 0) :
    zCt l D base 8 yX4_set w_X4_set [.ref a, .int 0, .int w] (zTo h a β τ (nI u) (nI v) rf φ c π sn) n 11 235 (zRT (some (.int (β 0 14))) (fun h' n' => ∃ h2 rf2, h' = zTo h2 a (up2 β 0 14 w) τ (if v < 6 then nI u else nI ((u + 1) % 6)) (if v < 6 then nI (v + 1) else nI v) rf2 φ c π sn ∧ zSv a n h rf sn ρ κ ((u + v) % 6) β h2 rf2 n')) := by
  refine zCt.of G (by decide) (Nat.le_of_ble_eq_true rfl) (fun Sx V X hV hE hX => ?_)
  show V 0 [(0, .ref a), (1, .int 0), (2, .int w)] [] (zTo h a β τ (nI u) (nI v) rf φ c π sn) n 0 0
  have f0 : ¬ (inV 0 0 1) = 0 := (by decide)
  refine hV.iload_n 1 dX4_set_0 rfl ?_
  refine hV.iconst (v := 2) dX4_set_1 (by decide) ?_
  refine hV.callS1 (rest := []) dX4_set_2 (c_X4_checkIndex_o G (k := 1) (by decide) (by exact f0)) my_X4_checkIndex ks_X4_43 rfl rfl (Nat.le_of_ble_eq_true rfl) (Nat.le_of_ble_eq_true rfl) (Nat.le_of_ble_eq_true rfl) (Nat.le_of_ble_eq_true rfl) (Nat.le_of_ble_eq_true rfl) (st2 := []) (k2 := 0) (g2 := 0) rfl rfl rfl ?_
  refine hV.iload_n 1 dX4_set_5 rfl ?_
  refine hV.if_ne_f (tgt := 19) dX4_set_6 (by decide) (by decide) ?_
  refine hV.iload_n 2 dX4_set_9 rfl ?_
  refine hV.iconst (v := 1) dX4_set_10 (by decide) ?_
  refine hV.bipush (v := 10) dX4_set_11 (by decide) ?_
  refine hV.callS1 (rest := []) dX4_set_13 (c_X4_checkValue G (by exact f1)) my_X4_checkValue ks_X4_47 rfl rfl (Nat.le_of_ble_eq_true rfl) (Nat.le_of_ble_eq_true rfl) (Nat.le_of_ble_eq_true rfl) (Nat.le_of_ble_eq_true rfl) (Nat.le_of_ble_eq_true rfl) (st2 := []) (k2 := 0) (g2 := 0) rfl rfl rfl ?_
  refine hV.goto (tgt := 26) dX4_set_16 (by decide) ?_
  refine hV.aload_n 0 dX4_set_26 rfl ?_
  refine hV.getf (v := .ref (a + 23)) dX4_set_27 fl_X4_22 To_o rfl ?_
  refine hV.aload_n 0 dX4_set_30 rfl ?_
  refine hV.getf (v := .ref (a + 1)) dX4_set_31 fl_X4_12 To_o rfl ?_
  refine hV.callV3 (rest := []) dX4_set_34 (c_X1_save G hu hv hx) my_X1_save kv_X4_51 To_h rfl rfl rfl (Nat.le_of_ble_eq_true rfl) (Nat.le_of_ble_eq_true rfl) (Nat.le_of_ble_eq_true rfl) (Nat.le_of_ble_eq_true rfl) (Nat.le_of_ble_eq_true rfl) (st2 := []) (k2 := 11) (g2 := 235) rfl rfl rfl (fun h1 n1 hn1 hs1 => ?_)
  obtain ⟨hh1, rr1, rfl, sv1⟩ := hs1
  refine hV.aload_n 0 dX4_set_37 rfl ?_
  refine hV.getf (v := .ref (a + 1)) dX4_set_38 fl_X4_12 To_o rfl ?_
  refine hV.bipush (v := 14) dX4_set_41 (by decide) ?_
  refine hV.iload_n 1 dX4_set_43 rfl ?_
  refine hV.iadd dX4_set_44 ?_
  refine zTop (v := 14) (by decide) ?_
  refine hV.iload_n 2 dX4_set_45 rfl ?_
  refine zHeap (h2 := setB (zTo hh1 a β τ (if v < 6 then nI u else nI ((u + 1) % 6)) (if v < 6 then nI (v + 1) else nI v) rr1 φ c π sn) (a + 1) β) (To_B.set.symm) ?_
  refine hV.callV1 (rest := []) dX4_set_46 (c_X0_change G (i := 14) (by omega)) my_X0_change kv_X4_63 B_o rfl rfl rfl (Nat.le_of_ble_eq_true rfl) (Nat.le_of_ble_eq_true rfl) (Nat.le_of_ble_eq_true rfl) (Nat.le_of_ble_eq_true rfl) (Nat.le_of_ble_eq_true rfl) (st2 := [.int (β 0 14)]) (k2 := 11) (g2 := 235) rfl rfl rfl ?_
  refine zHeap (h2 := zTo hh1 a (up2 β 0 14 w) τ (if v < 6 then nI u else nI ((u + 1) % 6)) (if v < 6 then nI (v + 1) else nI v) rr1 φ c π sn) To_B' ?_
  exact hE.1 dX4_set_49 rfl rfl (Nat.le_of_ble_eq_true rfl) (Nat.le_of_ble_eq_true rfl) (zRTi rfl ⟨_, _, rfl, sv1⟩)

set_option maxRecDepth 100000 in
set_option maxHeartbeats 4000000 in
theorem c_X4_set_1 {l : Launch} {D : va_G} {base : Nat} (G : l.stackTraces = false) {h : zH} {n : Nat} {a : Nat} {β τ : zB} {rf : Nat → Option Nat} {φ : Nat → Int32} {c π : zB} {sn : Option Nat} {ρ : Nat → zB} {κ : zB} {u v : Nat} (hu : u < 6) (hv : v ≤ 6) (hx : zExt a n h rf sn ρ κ) {w : Int32} (f1 : ¬ (inV w 0 20) = 0) :
    zCt l D base 8 yX4_set w_X4_set [.ref a, .int 1, .int w] (zTo h a β τ (nI u) (nI v) rf φ c π sn) n 11 235 (zRT (some (.int (β 0 15))) (fun h' n' => ∃ h2 rf2, h' = zTo h2 a (up2 β 0 15 w) τ (if v < 6 then nI u else nI ((u + 1) % 6)) (if v < 6 then nI (v + 1) else nI v) rf2 φ c π sn ∧ zSv a n h rf sn ρ κ ((u + v) % 6) β h2 rf2 n')) := by
  refine zCt.of G (by decide) (Nat.le_of_ble_eq_true rfl) (fun Sx V X hV hE hX => ?_)
  show V 0 [(0, .ref a), (1, .int 1), (2, .int w)] [] (zTo h a β τ (nI u) (nI v) rf φ c π sn) n 0 0
  have f0 : ¬ (inV 1 0 1) = 0 := (by decide)
  refine hV.iload_n 1 dX4_set_0 rfl ?_
  refine hV.iconst (v := 2) dX4_set_1 (by decide) ?_
  refine hV.callS1 (rest := []) dX4_set_2 (c_X4_checkIndex_o G (k := 1) (by decide) (by exact f0)) my_X4_checkIndex ks_X4_43 rfl rfl (Nat.le_of_ble_eq_true rfl) (Nat.le_of_ble_eq_true rfl) (Nat.le_of_ble_eq_true rfl) (Nat.le_of_ble_eq_true rfl) (Nat.le_of_ble_eq_true rfl) (st2 := []) (k2 := 0) (g2 := 0) rfl rfl rfl ?_
  refine hV.iload_n 1 dX4_set_5 rfl ?_
  refine hV.if_ne_t (tgt := 19) dX4_set_6 (by decide) (by decide) ?_
  refine hV.iload_n 2 dX4_set_19 rfl ?_
  refine hV.iconst (v := 0) dX4_set_20 (by decide) ?_
  refine hV.bipush (v := 20) dX4_set_21 (by decide) ?_
  refine hV.callS1 (rest := []) dX4_set_23 (c_X4_checkValue G (by exact f1)) my_X4_checkValue ks_X4_47 rfl rfl (Nat.le_of_ble_eq_true rfl) (Nat.le_of_ble_eq_true rfl) (Nat.le_of_ble_eq_true rfl) (Nat.le_of_ble_eq_true rfl) (Nat.le_of_ble_eq_true rfl) (st2 := []) (k2 := 0) (g2 := 0) rfl rfl rfl ?_
  refine hV.aload_n 0 dX4_set_26 rfl ?_
  refine hV.getf (v := .ref (a + 23)) dX4_set_27 fl_X4_22 To_o rfl ?_
  refine hV.aload_n 0 dX4_set_30 rfl ?_
  refine hV.getf (v := .ref (a + 1)) dX4_set_31 fl_X4_12 To_o rfl ?_
  refine hV.callV3 (rest := []) dX4_set_34 (c_X1_save G hu hv hx) my_X1_save kv_X4_51 To_h rfl rfl rfl (Nat.le_of_ble_eq_true rfl) (Nat.le_of_ble_eq_true rfl) (Nat.le_of_ble_eq_true rfl) (Nat.le_of_ble_eq_true rfl) (Nat.le_of_ble_eq_true rfl) (st2 := []) (k2 := 11) (g2 := 235) rfl rfl rfl (fun h1 n1 hn1 hs1 => ?_)
  obtain ⟨hh1, rr1, rfl, sv1⟩ := hs1
  refine hV.aload_n 0 dX4_set_37 rfl ?_
  refine hV.getf (v := .ref (a + 1)) dX4_set_38 fl_X4_12 To_o rfl ?_
  refine hV.bipush (v := 14) dX4_set_41 (by decide) ?_
  refine hV.iload_n 1 dX4_set_43 rfl ?_
  refine hV.iadd dX4_set_44 ?_
  refine zTop (v := 15) (by decide) ?_
  refine hV.iload_n 2 dX4_set_45 rfl ?_
  refine zHeap (h2 := setB (zTo hh1 a β τ (if v < 6 then nI u else nI ((u + 1) % 6)) (if v < 6 then nI (v + 1) else nI v) rr1 φ c π sn) (a + 1) β) (To_B.set.symm) ?_
  refine hV.callV1 (rest := []) dX4_set_46 (c_X0_change G (i := 15) (by omega)) my_X0_change kv_X4_63 B_o rfl rfl rfl (Nat.le_of_ble_eq_true rfl) (Nat.le_of_ble_eq_true rfl) (Nat.le_of_ble_eq_true rfl) (Nat.le_of_ble_eq_true rfl) (Nat.le_of_ble_eq_true rfl) (st2 := [.int (β 0 15)]) (k2 := 11) (g2 := 235) rfl rfl rfl ?_
  refine zHeap (h2 := zTo hh1 a (up2 β 0 15 w) τ (if v < 6 then nI u else nI ((u + 1) % 6)) (if v < 6 then nI (v + 1) else nI v) rr1 φ c π sn) To_B' ?_
  exact hE.1 dX4_set_49 rfl rfl (Nat.le_of_ble_eq_true rfl) (Nat.le_of_ble_eq_true rfl) (zRTi rfl ⟨_, _, rfl, sv1⟩)

set_option maxRecDepth 100000 in
set_option maxHeartbeats 4000000 in
theorem c_X4_shuffle_x1 {l : Launch} {D : va_G} {base : Nat} (G : l.stackTraces = false) {h : zH} {n : Nat} {a : Nat} {β τ : zB} {rf : Nat → Option Nat} {φ : Nat → Int32} {c π : zB} {sn : Option Nat} {o s : Int32} {w : Int32} (f0 : (inV w 0 2147483647) = 0) :
    zCt l D base 8 yX4_shuffle w_X4_shuffle [.ref a, .int w] (zTo h a β τ o s rf φ c π sn) n 1 6 (zTX "java/lang/IllegalArgumentException" (zTo h a β τ o s rf φ c π sn) n) := by
  refine zCt.of G (by decide) (Nat.le_of_ble_eq_true rfl) (fun Sx V X hV hE hX => ?_)
  show V 0 [(0, .ref a), (1, .int w)] [] (zTo h a β τ o s rf φ c π sn) n 0 0
  refine hV.iload_n 1 dX4_shuffle_0 rfl ?_
  refine hV.iconst (v := 0) dX4_shuffle_1 (by decide) ?_
  refine hV.ldc dX4_shuffle_2 kc_X4_66 ?_
  exact hV.callSx (rest := []) dX4_shuffle_4 (c_X4_checkValue_x G (by exact f0)) my_X4_checkValue ks_X4_47 rfl rfl (Nat.le_of_ble_eq_true rfl) (Nat.le_of_ble_eq_true rfl) (Nat.le_of_ble_eq_true rfl) (Nat.le_of_ble_eq_true rfl) (Nat.le_of_ble_eq_true rfl) hX (Nat.le_of_ble_eq_true rfl) (Nat.le_of_ble_eq_true rfl) (fun n2 hn => ⟨rfl, rfl, hn⟩)

set_option maxRecDepth 100000 in
set_option maxHeartbeats 4000000 in
theorem c_X4_shuffle {l : Launch} {D : va_G} {base : Nat} (G : l.stackTraces = false) {h : zH} {n : Nat} {a : Nat} {β τ : zB} {rf : Nat → Option Nat} {φ : Nat → Int32} {c π : zB} {sn : Option Nat} {ρ : Nat → zB} {κ : zB} {u v : Nat} (hu : u < 6) (hv : v ≤ 6) (hx : zExt a n h rf sn ρ κ) {w : Int32} (f0 : ¬ (inV w 0 2147483647) = 0) :
    zCt l D base 8 yX4_shuffle w_X4_shuffle [.ref a, .int w] (zTo h a β τ (nI u) (nI v) rf φ c π sn) n 11 235 (zRT (some (.int (β 0 13))) (fun h' n' => ∃ h2 rf2, h' = zTo h2 a (up2 β 0 13 w) τ (if v < 6 then nI u else nI ((u + 1) % 6)) (if v < 6 then nI (v + 1) else nI v) rf2 φ c π sn ∧ zSv a n h rf sn ρ κ ((u + v) % 6) β h2 rf2 n')) := by
  refine zCt.of G (by decide) (Nat.le_of_ble_eq_true rfl) (fun Sx V X hV hE hX => ?_)
  show V 0 [(0, .ref a), (1, .int w)] [] (zTo h a β τ (nI u) (nI v) rf φ c π sn) n 0 0
  refine hV.iload_n 1 dX4_shuffle_0 rfl ?_
  refine hV.iconst (v := 0) dX4_shuffle_1 (by decide) ?_
  refine hV.ldc dX4_shuffle_2 kc_X4_66 ?_
  refine hV.callS1 (rest := []) dX4_shuffle_4 (c_X4_checkValue G (by exact f0)) my_X4_checkValue ks_X4_47 rfl rfl (Nat.le_of_ble_eq_true rfl) (Nat.le_of_ble_eq_true rfl) (Nat.le_of_ble_eq_true rfl) (Nat.le_of_ble_eq_true rfl) (Nat.le_of_ble_eq_true rfl) (st2 := []) (k2 := 0) (g2 := 0) rfl rfl rfl ?_
  refine hV.aload_n 0 dX4_shuffle_7 rfl ?_
  refine hV.getf (v := .ref (a + 23)) dX4_shuffle_8 fl_X4_22 To_o rfl ?_
  refine hV.aload_n 0 dX4_shuffle_11 rfl ?_
  refine hV.getf (v := .ref (a + 1)) dX4_shuffle_12 fl_X4_12 To_o rfl ?_
  refine hV.callV3 (rest := []) dX4_shuffle_15 (c_X1_save G hu hv hx) my_X1_save kv_X4_51 To_h rfl rfl rfl (Nat.le_of_ble_eq_true rfl) (Nat.le_of_ble_eq_true rfl) (Nat.le_of_ble_eq_true rfl) (Nat.le_of_ble_eq_true rfl) (Nat.le_of_ble_eq_true rfl) (st2 := []) (k2 := 11) (g2 := 235) rfl rfl rfl (fun h1 n1 hn1 hs1 => ?_)
  obtain ⟨hh1, rr1, rfl, sv1⟩ := hs1
  refine hV.aload_n 0 dX4_shuffle_18 rfl ?_
  refine hV.getf (v := .ref (a + 1)) dX4_shuffle_19 fl_X4_12 To_o rfl ?_
  refine hV.bipush (v := 13) dX4_shuffle_22 (by decide) ?_
  refine hV.iload_n 1 dX4_shuffle_24 rfl ?_
  refine zHeap (h2 := setB (zTo hh1 a β τ (if v < 6 then nI u else nI ((u + 1) % 6)) (if v < 6 then nI (v + 1) else nI v) rr1 φ c π sn) (a + 1) β) (To_B.set.symm) ?_
  refine hV.callV1 (rest := []) dX4_shuffle_25 (c_X0_change G (i := 13) (by omega)) my_X0_change kv_X4_63 B_o rfl rfl rfl (Nat.le_of_ble_eq_true rfl) (Nat.le_of_ble_eq_true rfl) (Nat.le_of_ble_eq_true rfl) (Nat.le_of_ble_eq_true rfl) (Nat.le_of_ble_eq_true rfl) (st2 := [.int (β 0 13)]) (k2 := 11) (g2 := 235) rfl rfl rfl ?_
  refine zHeap (h2 := zTo hh1 a (up2 β 0 13 w) τ (if v < 6 then nI u else nI ((u + 1) % 6)) (if v < 6 then nI (v + 1) else nI v) rr1 φ c π sn) To_B' ?_
  exact hE.1 dX4_shuffle_28 rfl rfl (Nat.le_of_ble_eq_true rfl) (Nat.le_of_ble_eq_true rfl) (zRTi rfl ⟨_, _, rfl, sv1⟩)

set_option maxRecDepth 100000 in
set_option maxHeartbeats 4000000 in
theorem c_X4_buy_x1 {l : Launch} {D : va_G} {base : Nat} (G : l.stackTraces = false) {h : zH} {n : Nat} {a : Nat} {β τ : zB} {rf : Nat → Option Nat} {φ : Nat → Int32} {c π : zB} {sn : Option Nat} {o s : Int32} {w : Int32} (f0 : (inV w 1 99) = 0) :
    zCt l D base 8 yX4_buy w_X4_buy [.ref a, .int w] (zTo h a β τ o s rf φ c π sn) n 1 6 (zTX "java/lang/IllegalArgumentException" (zTo h a β τ o s rf φ c π sn) n) := by
  refine zCt.of G (by decide) (Nat.le_of_ble_eq_true rfl) (fun Sx V X hV hE hX => ?_)
  show V 0 [(0, .ref a), (1, .int w)] [] (zTo h a β τ o s rf φ c π sn) n 0 0
  refine hV.iload_n 1 dX4_buy_0 rfl ?_
  refine hV.iconst (v := 1) dX4_buy_1 (by decide) ?_
  refine hV.bipush (v := 99) dX4_buy_2 (by decide) ?_
  exact hV.callSx (rest := []) dX4_buy_4 (c_X4_checkValue_x G (by exact f0)) my_X4_checkValue ks_X4_47 rfl rfl (Nat.le_of_ble_eq_true rfl) (Nat.le_of_ble_eq_true rfl) (Nat.le_of_ble_eq_true rfl) (Nat.le_of_ble_eq_true rfl) (Nat.le_of_ble_eq_true rfl) hX (Nat.le_of_ble_eq_true rfl) (Nat.le_of_ble_eq_true rfl) (fun n2 hn => ⟨rfl, rfl, hn⟩)

set_option maxRecDepth 100000 in
set_option maxHeartbeats 4000000 in
theorem c_X4_buy {l : Launch} {D : va_G} {base : Nat} (G : l.stackTraces = false) {h : zH} {n : Nat} {a : Nat} {β τ : zB} {rf : Nat → Option Nat} {φ : Nat → Int32} {c π : zB} {sn : Option Nat} {ρ : Nat → zB} {κ : zB} {u v : Nat} (hu : u < 6) (hv : v ≤ 6) (hx : zExt a n h rf sn ρ κ) {w : Int32} (f0 : ¬ (inV w 1 99) = 0) :
    zCt l D base 8 yX4_buy w_X4_buy [.ref a, .int w] (zTo h a β τ (nI u) (nI v) rf φ c π sn) n 11 235 (zRT (some (.int (buyB β w 0 0))) (fun h' n' => ∃ h2 rf2, h' = zTo h2 a (buyB β w) τ (if v < 6 then nI u else nI ((u + 1) % 6)) (if v < 6 then nI (v + 1) else nI v) rf2 φ c π sn ∧ zSv a n h rf sn ρ κ ((u + v) % 6) β h2 rf2 n')) := by
  refine zCt.of G (by decide) (Nat.le_of_ble_eq_true rfl) (fun Sx V X hV hE hX => ?_)
  show V 0 [(0, .ref a), (1, .int w)] [] (zTo h a β τ (nI u) (nI v) rf φ c π sn) n 0 0
  refine hV.iload_n 1 dX4_buy_0 rfl ?_
  refine hV.iconst (v := 1) dX4_buy_1 (by decide) ?_
  refine hV.bipush (v := 99) dX4_buy_2 (by decide) ?_
  refine hV.callS1 (rest := []) dX4_buy_4 (c_X4_checkValue G (by exact f0)) my_X4_checkValue ks_X4_47 rfl rfl (Nat.le_of_ble_eq_true rfl) (Nat.le_of_ble_eq_true rfl) (Nat.le_of_ble_eq_true rfl) (Nat.le_of_ble_eq_true rfl) (Nat.le_of_ble_eq_true rfl) (st2 := []) (k2 := 0) (g2 := 0) rfl rfl rfl ?_
  refine hV.aload_n 0 dX4_buy_7 rfl ?_
  refine hV.getf (v := .ref (a + 23)) dX4_buy_8 fl_X4_22 To_o rfl ?_
  refine hV.aload_n 0 dX4_buy_11 rfl ?_
  refine hV.getf (v := .ref (a + 1)) dX4_buy_12 fl_X4_12 To_o rfl ?_
  refine hV.callV3 (rest := []) dX4_buy_15 (c_X1_save G hu hv hx) my_X1_save kv_X4_51 To_h rfl rfl rfl (Nat.le_of_ble_eq_true rfl) (Nat.le_of_ble_eq_true rfl) (Nat.le_of_ble_eq_true rfl) (Nat.le_of_ble_eq_true rfl) (Nat.le_of_ble_eq_true rfl) (st2 := []) (k2 := 11) (g2 := 235) rfl rfl rfl (fun h1 n1 hn1 hs1 => ?_)
  obtain ⟨hh1, rr1, rfl, sv1⟩ := hs1
  refine hV.aload_n 0 dX4_buy_18 rfl ?_
  refine hV.getf (v := .ref (a + 1)) dX4_buy_19 fl_X4_12 To_o rfl ?_
  refine hV.iload_n 1 dX4_buy_22 rfl ?_
  refine zHeap (h2 := setB (zTo hh1 a β τ (if v < 6 then nI u else nI ((u + 1) % 6)) (if v < 6 then nI (v + 1) else nI v) rr1 φ c π sn) (a + 1) β) (To_B.set.symm) ?_
  refine hV.callV1 (rest := []) dX4_buy_23 (c_X0_buyBalls G) my_X0_buyBalls kv_X4_67 B_o rfl rfl rfl (Nat.le_of_ble_eq_true rfl) (Nat.le_of_ble_eq_true rfl) (Nat.le_of_ble_eq_true rfl) (Nat.le_of_ble_eq_true rfl) (Nat.le_of_ble_eq_true rfl) (st2 := []) (k2 := 11) (g2 := 235) rfl rfl rfl ?_
  refine zHeap (h2 := zTo hh1 a (buyB β w) τ (if v < 6 then nI u else nI ((u + 1) % 6)) (if v < 6 then nI (v + 1) else nI v) rr1 φ c π sn) To_B' ?_
  refine hV.aload_n 0 dX4_buy_26 rfl ?_
  refine hV.getf (v := .ref (a + 1)) dX4_buy_27 fl_X4_12 To_o rfl ?_
  refine hV.getf (v := .ref (a + 1 + 1)) dX4_buy_30 fl_X4_71 To_B.1 rfl ?_
  refine hV.iconst (v := 0) dX4_buy_33 (by decide) ?_
  refine hV.iald (j := 0) dX4_buy_34 (zobjAt.arr To_B 0 17 (by decide) rfl) ⟨by decide, by decide⟩ (by decide) ?_
  exact hE.1 dX4_buy_35 rfl rfl (Nat.le_of_ble_eq_true rfl) (Nat.le_of_ble_eq_true rfl) (zRTi rfl ⟨_, _, rfl, sv1⟩)

set_option maxRecDepth 100000 in
set_option maxHeartbeats 4000000 in
theorem c_X4_launch_x1 {l : Launch} {D : va_G} {base : Nat} (G : l.stackTraces = false) {h : zH} {n : Nat} {a : Nat} {β τ : zB} {rf : Nat → Option Nat} {φ : Nat → Int32} {c π : zB} {sn : Option Nat} {o s : Int32} {w : Int32} (f0 : (inV w 0 6) = 0) :
    zCt l D base 8 yX4_launch w_X4_launch [.ref a, .int w] (zTo h a β τ o s rf φ c π sn) n 1 6 (zTX "java/lang/IndexOutOfBoundsException" (zTo h a β τ o s rf φ c π sn) n) := by
  refine zCt.of G (by decide) (Nat.le_of_ble_eq_true rfl) (fun Sx V X hV hE hX => ?_)
  show V 0 [(0, .ref a), (1, .int w)] [] (zTo h a β τ o s rf φ c π sn) n 0 0
  refine hV.iload_n 1 dX4_launch_0 rfl ?_
  refine hV.bipush (v := 7) dX4_launch_1 (by decide) ?_
  exact hV.callSx (rest := []) dX4_launch_3 (c_X4_checkIndex_x G (k := 6) (by decide) (by exact f0)) my_X4_checkIndex ks_X4_43 rfl rfl (Nat.le_of_ble_eq_true rfl) (Nat.le_of_ble_eq_true rfl) (Nat.le_of_ble_eq_true rfl) (Nat.le_of_ble_eq_true rfl) (Nat.le_of_ble_eq_true rfl) hX (Nat.le_of_ble_eq_true rfl) (Nat.le_of_ble_eq_true rfl) (fun n2 hn => ⟨rfl, rfl, hn⟩)

set_option maxRecDepth 100000 in
set_option maxHeartbeats 4000000 in
theorem c_X4_launch_x2 {l : Launch} {D : va_G} {base : Nat} (G : l.stackTraces = false) {h : zH} {n : Nat} {a : Nat} {β τ : zB} {rf : Nat → Option Nat} {φ : Nat → Int32} {c π : zB} {sn : Option Nat} {o s : Int32} {w : Int32} (f0 : ¬ (inV w 0 6) = 0) (g0 : (β 0 0) = 0) :
    zCt l D base 8 yX4_launch w_X4_launch [.ref a, .int w] (zTo h a β τ o s rf φ c π sn) n 1 6 (zTX "java/lang/IllegalStateException" (zTo h a β τ o s rf φ c π sn) n) := by
  refine zCt.of G (by decide) (Nat.le_of_ble_eq_true rfl) (fun Sx V X hV hE hX => ?_)
  show V 0 [(0, .ref a), (1, .int w)] [] (zTo h a β τ o s rf φ c π sn) n 0 0
  refine hV.iload_n 1 dX4_launch_0 rfl ?_
  refine hV.bipush (v := 7) dX4_launch_1 (by decide) ?_
  refine hV.callS1 (rest := []) dX4_launch_3 (c_X4_checkIndex_o G (k := 6) (by decide) (by exact f0)) my_X4_checkIndex ks_X4_43 rfl rfl (Nat.le_of_ble_eq_true rfl) (Nat.le_of_ble_eq_true rfl) (Nat.le_of_ble_eq_true rfl) (Nat.le_of_ble_eq_true rfl) (Nat.le_of_ble_eq_true rfl) (st2 := []) (k2 := 0) (g2 := 0) rfl rfl rfl ?_
  refine hV.aload_n 0 dX4_launch_6 rfl ?_
  refine hV.getf (v := .ref (a + 1)) dX4_launch_7 fl_X4_12 To_o rfl ?_
  refine hV.getf (v := .ref (a + 1 + 1)) dX4_launch_10 fl_X4_71 To_B.1 rfl ?_
  refine hV.iconst (v := 0) dX4_launch_13 (by decide) ?_
  refine hV.iald (j := 0) dX4_launch_14 (zobjAt.arr To_B 0 17 (by decide) rfl) ⟨by decide, by decide⟩ (by decide) ?_
  refine hV.if_ne_f (tgt := 28) dX4_launch_15 (by decide) g0 ?_
  exact hX.1 rfl th_77 dX4_launch_18 dX4_launch_21 dX4_launch_22 dX4_launch_24 dX4_launch_27 (Nat.le_of_ble_eq_true rfl) (Nat.le_of_ble_eq_true rfl) (by decide) (Nat.le_of_ble_eq_true rfl) (Nat.le_of_ble_eq_true rfl) (Nat.le_of_ble_eq_true rfl) (Nat.le_of_ble_eq_true rfl) (fun n2 hn => ⟨rfl, rfl, hn⟩)

set_option maxRecDepth 100000 in
set_option maxHeartbeats 4000000 in
theorem c_X4_launch {l : Launch} {D : va_G} {base : Nat} (G : l.stackTraces = false) {h : zH} {n : Nat} {a : Nat} {β τ : zB} {rf : Nat → Option Nat} {φ : Nat → Int32} {c π : zB} {sn : Option Nat} {ρ : Nat → zB} {κ : zB} {u v : Nat} (hu : u < 6) (hv : v ≤ 6) (hx : zExt a n h rf sn ρ κ) (hp : pinOk (β 1)) {c1 : Nat} (hc : c1 < 7) (g0 : ¬ (β 0 0) = 0) :
    zCt l D base 8 yX4_launch w_X4_launch [.ref a, .int (nI c1)] (zTo h a β τ (nI u) (nI v) rf φ c π sn) n 11 235 (zRT (some (.int (lchB β c1 0 11))) (fun h' n' => ∃ h2 rf2, h' = zTo h2 a (lchB β c1) τ (if v < 6 then nI u else nI ((u + 1) % 6)) (if v < 6 then nI (v + 1) else nI v) rf2 φ c π sn ∧ zSv a n h rf sn ρ κ ((u + v) % 6) β h2 rf2 n')) := by
  refine zCt.of G (by decide) (Nat.le_of_ble_eq_true rfl) (fun Sx V X hV hE hX => ?_)
  show V 0 [(0, .ref a), (1, .int (nI c1))] [] (zTo h a β τ (nI u) (nI v) rf φ c π sn) n 0 0
  have f0 : ¬ (inV (nI c1) 0 6) = 0 := (inV_T (inV_c6 hc))
  refine hV.iload_n 1 dX4_launch_0 rfl ?_
  refine hV.bipush (v := 7) dX4_launch_1 (by decide) ?_
  refine hV.callS1 (rest := []) dX4_launch_3 (c_X4_checkIndex_o G (k := 6) (by decide) (by exact f0)) my_X4_checkIndex ks_X4_43 rfl rfl (Nat.le_of_ble_eq_true rfl) (Nat.le_of_ble_eq_true rfl) (Nat.le_of_ble_eq_true rfl) (Nat.le_of_ble_eq_true rfl) (Nat.le_of_ble_eq_true rfl) (st2 := []) (k2 := 0) (g2 := 0) rfl rfl rfl ?_
  refine hV.aload_n 0 dX4_launch_6 rfl ?_
  refine hV.getf (v := .ref (a + 1)) dX4_launch_7 fl_X4_12 To_o rfl ?_
  refine hV.getf (v := .ref (a + 1 + 1)) dX4_launch_10 fl_X4_71 To_B.1 rfl ?_
  refine hV.iconst (v := 0) dX4_launch_13 (by decide) ?_
  refine hV.iald (j := 0) dX4_launch_14 (zobjAt.arr To_B 0 17 (by decide) rfl) ⟨by decide, by decide⟩ (by decide) ?_
  refine hV.if_ne_t (tgt := 28) dX4_launch_15 (by decide) g0 ?_
  refine hV.aload_n 0 dX4_launch_28 rfl ?_
  refine hV.getf (v := .ref (a + 23)) dX4_launch_29 fl_X4_22 To_o rfl ?_
  refine hV.aload_n 0 dX4_launch_32 rfl ?_
  refine hV.getf (v := .ref (a + 1)) dX4_launch_33 fl_X4_12 To_o rfl ?_
  refine hV.callV3 (rest := []) dX4_launch_36 (c_X1_save G hu hv hx) my_X1_save kv_X4_51 To_h rfl rfl rfl (Nat.le_of_ble_eq_true rfl) (Nat.le_of_ble_eq_true rfl) (Nat.le_of_ble_eq_true rfl) (Nat.le_of_ble_eq_true rfl) (Nat.le_of_ble_eq_true rfl) (st2 := []) (k2 := 11) (g2 := 235) rfl rfl rfl (fun h1 n1 hn1 hs1 => ?_)
  obtain ⟨hh1, rr1, rfl, sv1⟩ := hs1
  refine hV.aload_n 0 dX4_launch_39 rfl ?_
  refine hV.getf (v := .ref (a + 1)) dX4_launch_40 fl_X4_12 To_o rfl ?_
  refine hV.iload_n 1 dX4_launch_43 rfl ?_
  refine zHeap (h2 := setB (zTo hh1 a β τ (if v < 6 then nI u else nI ((u + 1) % 6)) (if v < 6 then nI (v + 1) else nI v) rr1 φ c π sn) (a + 1) β) (To_B.set.symm) ?_
  refine hV.callV1 (rest := []) dX4_launch_44 (c_X0_launchBall G (c := c1) (by omega) hp) my_X0_launchBall kv_X4_82 B_o rfl rfl rfl (Nat.le_of_ble_eq_true rfl) (Nat.le_of_ble_eq_true rfl) (Nat.le_of_ble_eq_true rfl) (Nat.le_of_ble_eq_true rfl) (Nat.le_of_ble_eq_true rfl) (st2 := [.int (lchR β c1)]) (k2 := 11) (g2 := 235) rfl rfl rfl ?_
  refine zHeap (h2 := zTo hh1 a (lchB β c1) τ (if v < 6 then nI u else nI ((u + 1) % 6)) (if v < 6 then nI (v + 1) else nI v) rr1 φ c π sn) To_B' ?_
  refine hV.pop dX4_launch_47 rfl ?_
  refine hV.aload_n 0 dX4_launch_48 rfl ?_
  refine hV.getf (v := .ref (a + 1)) dX4_launch_49 fl_X4_12 To_o rfl ?_
  refine hV.getf (v := .ref (a + 1 + 1)) dX4_launch_52 fl_X4_71 To_B.1 rfl ?_
  refine hV.bipush (v := 11) dX4_launch_55 (by decide) ?_
  refine hV.iald (j := 11) dX4_launch_57 (zobjAt.arr To_B 0 17 (by decide) rfl) ⟨by decide, by decide⟩ (by decide) ?_
  exact hE.1 dX4_launch_58 rfl rfl (Nat.le_of_ble_eq_true rfl) (Nat.le_of_ble_eq_true rfl) (zRTi rfl ⟨_, _, rfl, sv1⟩)

set_option maxRecDepth 100000 in
set_option maxHeartbeats 4000000 in
theorem c_X4_play_x1 {l : Launch} {D : va_G} {base : Nat} (G : l.stackTraces = false) {h : zH} {n : Nat} {a : Nat} {β τ : zB} {rf : Nat → Option Nat} {φ : Nat → Int32} {c π : zB} {sn : Option Nat} {o s : Int32} {w m : Int32} (f0 : (inV w 0 6) = 0) :
    zCt l D base 8 yX4_play w_X4_play [.ref a, .int w, .int m] (zTo h a β τ o s rf φ c π sn) n 1 6 (zTX "java/lang/IndexOutOfBoundsException" (zTo h a β τ o s rf φ c π sn) n) := by
  refine zCt.of G (by decide) (Nat.le_of_ble_eq_true rfl) (fun Sx V X hV hE hX => ?_)
  show V 0 [(0, .ref a), (1, .int w), (2, .int m)] [] (zTo h a β τ o s rf φ c π sn) n 0 0
  refine hV.iload_n 1 dX4_play_0 rfl ?_
  refine hV.bipush (v := 7) dX4_play_1 (by decide) ?_
  exact hV.callSx (rest := []) dX4_play_3 (c_X4_checkIndex_x G (k := 6) (by decide) (by exact f0)) my_X4_checkIndex ks_X4_43 rfl rfl (Nat.le_of_ble_eq_true rfl) (Nat.le_of_ble_eq_true rfl) (Nat.le_of_ble_eq_true rfl) (Nat.le_of_ble_eq_true rfl) (Nat.le_of_ble_eq_true rfl) hX (Nat.le_of_ble_eq_true rfl) (Nat.le_of_ble_eq_true rfl) (fun n2 hn => ⟨rfl, rfl, hn⟩)

set_option maxRecDepth 100000 in
set_option maxHeartbeats 4000000 in
theorem c_X4_play_x2 {l : Launch} {D : va_G} {base : Nat} (G : l.stackTraces = false) {h : zH} {n : Nat} {a : Nat} {β τ : zB} {rf : Nat → Option Nat} {φ : Nat → Int32} {c π : zB} {sn : Option Nat} {o s : Int32} {w m : Int32} (f0 : ¬ (inV w 0 6) = 0) (f1 : (inV m 1 30) = 0) :
    zCt l D base 8 yX4_play w_X4_play [.ref a, .int w, .int m] (zTo h a β τ o s rf φ c π sn) n 1 6 (zTX "java/lang/IllegalArgumentException" (zTo h a β τ o s rf φ c π sn) n) := by
  refine zCt.of G (by decide) (Nat.le_of_ble_eq_true rfl) (fun Sx V X hV hE hX => ?_)
  show V 0 [(0, .ref a), (1, .int w), (2, .int m)] [] (zTo h a β τ o s rf φ c π sn) n 0 0
  refine hV.iload_n 1 dX4_play_0 rfl ?_
  refine hV.bipush (v := 7) dX4_play_1 (by decide) ?_
  refine hV.callS1 (rest := []) dX4_play_3 (c_X4_checkIndex_o G (k := 6) (by decide) (by exact f0)) my_X4_checkIndex ks_X4_43 rfl rfl (Nat.le_of_ble_eq_true rfl) (Nat.le_of_ble_eq_true rfl) (Nat.le_of_ble_eq_true rfl) (Nat.le_of_ble_eq_true rfl) (Nat.le_of_ble_eq_true rfl) (st2 := []) (k2 := 0) (g2 := 0) rfl rfl rfl ?_
  refine hV.iload_n 2 dX4_play_6 rfl ?_
  refine hV.iconst (v := 1) dX4_play_7 (by decide) ?_
  refine hV.bipush (v := 30) dX4_play_8 (by decide) ?_
  exact hV.callSx (rest := []) dX4_play_10 (c_X4_checkValue_x G (by exact f1)) my_X4_checkValue ks_X4_47 rfl rfl (Nat.le_of_ble_eq_true rfl) (Nat.le_of_ble_eq_true rfl) (Nat.le_of_ble_eq_true rfl) (Nat.le_of_ble_eq_true rfl) (Nat.le_of_ble_eq_true rfl) hX (Nat.le_of_ble_eq_true rfl) (Nat.le_of_ble_eq_true rfl) (fun n2 hn => ⟨rfl, rfl, hn⟩)

set_option maxRecDepth 100000 in
set_option maxHeartbeats 4000000 in
theorem c_X4_play {l : Launch} {D : va_G} {base : Nat} (G : l.stackTraces = false) {h : zH} {n : Nat} {a : Nat} {β τ : zB} {rf : Nat → Option Nat} {φ : Nat → Int32} {c π : zB} {sn : Option Nat} {ρ : Nat → zB} {κ : zB} {u v : Nat} (hu : u < 6) (hv : v ≤ 6) (hx : zExt a n h rf sn ρ κ) (hp : pinOk (β 1)) {c1 m : Nat} (hc : c1 < 7) (hm1 : 1 ≤ m) (hm : m ≤ 30) :
    zCt l D base 8 yX4_play w_X4_play [.ref a, .int (nI c1), .int (nI m)] (zTo h a β τ (nI u) (nI v) rf φ c π sn) n 11 235 (zRT (some (.int ((plB c1 m (β, 0)).2))) (fun h' n' => ∃ h2 rf2, h' = zTo h2 a ((plB c1 m (β, 0)).1) τ (if v < 6 then nI u else nI ((u + 1) % 6)) (if v < 6 then nI (v + 1) else nI v) rf2 φ c π sn ∧ zSv a n h rf sn ρ κ ((u + v) % 6) β h2 rf2 n')) := by
  refine zCt.of G (by decide) (Nat.le_of_ble_eq_true rfl) (fun Sx V X hV hE hX => ?_)
  show V 0 [(0, .ref a), (1, .int (nI c1)), (2, .int (nI m))] [] (zTo h a β τ (nI u) (nI v) rf φ c π sn) n 0 0
  have f0 : ¬ (inV (nI c1) 0 6) = 0 := (inV_T (inV_c6 hc))
  have f1 : ¬ (inV (nI m) 1 30) = 0 := (inV_T (inV_N (lo := 1) (hi := 30) hm1 hm (by decide)))
  refine hV.iload_n 1 dX4_play_0 rfl ?_
  refine hV.bipush (v := 7) dX4_play_1 (by decide) ?_
  refine hV.callS1 (rest := []) dX4_play_3 (c_X4_checkIndex_o G (k := 6) (by decide) (by exact f0)) my_X4_checkIndex ks_X4_43 rfl rfl (Nat.le_of_ble_eq_true rfl) (Nat.le_of_ble_eq_true rfl) (Nat.le_of_ble_eq_true rfl) (Nat.le_of_ble_eq_true rfl) (Nat.le_of_ble_eq_true rfl) (st2 := []) (k2 := 0) (g2 := 0) rfl rfl rfl ?_
  refine hV.iload_n 2 dX4_play_6 rfl ?_
  refine hV.iconst (v := 1) dX4_play_7 (by decide) ?_
  refine hV.bipush (v := 30) dX4_play_8 (by decide) ?_
  refine hV.callS1 (rest := []) dX4_play_10 (c_X4_checkValue G (by exact f1)) my_X4_checkValue ks_X4_47 rfl rfl (Nat.le_of_ble_eq_true rfl) (Nat.le_of_ble_eq_true rfl) (Nat.le_of_ble_eq_true rfl) (Nat.le_of_ble_eq_true rfl) (Nat.le_of_ble_eq_true rfl) (st2 := []) (k2 := 0) (g2 := 0) rfl rfl rfl ?_
  refine hV.aload_n 0 dX4_play_13 rfl ?_
  refine hV.getf (v := .ref (a + 23)) dX4_play_14 fl_X4_22 To_o rfl ?_
  refine hV.aload_n 0 dX4_play_17 rfl ?_
  refine hV.getf (v := .ref (a + 1)) dX4_play_18 fl_X4_12 To_o rfl ?_
  refine hV.callV3 (rest := []) dX4_play_21 (c_X1_save G hu hv hx) my_X1_save kv_X4_51 To_h rfl rfl rfl (Nat.le_of_ble_eq_true rfl) (Nat.le_of_ble_eq_true rfl) (Nat.le_of_ble_eq_true rfl) (Nat.le_of_ble_eq_true rfl) (Nat.le_of_ble_eq_true rfl) (st2 := []) (k2 := 11) (g2 := 235) rfl rfl rfl (fun h1 n1 hn1 hs1 => ?_)
  obtain ⟨hh1, rr1, rfl, sv1⟩ := hs1
  refine hV.aload_n 0 dX4_play_24 rfl ?_
  refine hV.getf (v := .ref (a + 1)) dX4_play_25 fl_X4_12 To_o rfl ?_
  refine hV.iload_n 1 dX4_play_28 rfl ?_
  refine hV.iload_n 2 dX4_play_29 rfl ?_
  refine zHeap (h2 := setB (zTo hh1 a β τ (if v < 6 then nI u else nI ((u + 1) % 6)) (if v < 6 then nI (v + 1) else nI v) rr1 φ c π sn) (a + 1) β) (To_B.set.symm) ?_
  refine hV.callV1 (rest := []) dX4_play_30 (c_X0_launchBalls G (c := c1) (k := m) (by omega) (by omega) hp) my_X0_launchBalls kv_X4_86 B_o rfl rfl rfl (Nat.le_of_ble_eq_true rfl) (Nat.le_of_ble_eq_true rfl) (Nat.le_of_ble_eq_true rfl) (Nat.le_of_ble_eq_true rfl) (Nat.le_of_ble_eq_true rfl) (st2 := [.int ((plB c1 m (β, 0)).2)]) (k2 := 11) (g2 := 235) rfl rfl rfl ?_
  refine zHeap (h2 := zTo hh1 a ((plB c1 m (β, 0)).1) τ (if v < 6 then nI u else nI ((u + 1) % 6)) (if v < 6 then nI (v + 1) else nI v) rr1 φ c π sn) To_B' ?_
  exact hE.1 dX4_play_33 rfl rfl (Nat.le_of_ble_eq_true rfl) (Nat.le_of_ble_eq_true rfl) (zRTi rfl ⟨_, _, rfl, sv1⟩)

set_option maxRecDepth 100000 in
set_option maxHeartbeats 4000000 in
theorem c_X4_pin_x1 {l : Launch} {D : va_G} {base : Nat} (G : l.stackTraces = false) {h : zH} {n : Nat} {a : Nat} {β τ : zB} {rf : Nat → Option Nat} {φ : Nat → Int32} {c π : zB} {sn : Option Nat} {o s : Int32} {r c1 : Int32} (f0 : (inV r 0 7) = 0) :
    zCt l D base 8 yX4_pin w_X4_pin [.ref a, .int r, .int c1] (zTo h a β τ o s rf φ c π sn) n 1 6 (zTX "java/lang/IndexOutOfBoundsException" (zTo h a β τ o s rf φ c π sn) n) := by
  refine zCt.of G (by decide) (Nat.le_of_ble_eq_true rfl) (fun Sx V X hV hE hX => ?_)
  show V 0 [(0, .ref a), (1, .int r), (2, .int c1)] [] (zTo h a β τ o s rf φ c π sn) n 0 0
  refine hV.iload_n 1 dX4_pin_0 rfl ?_
  refine hV.bipush (v := 8) dX4_pin_1 (by decide) ?_
  exact hV.callSx (rest := []) dX4_pin_3 (c_X4_checkIndex_x G (k := 7) (by decide) (by exact f0)) my_X4_checkIndex ks_X4_43 rfl rfl (Nat.le_of_ble_eq_true rfl) (Nat.le_of_ble_eq_true rfl) (Nat.le_of_ble_eq_true rfl) (Nat.le_of_ble_eq_true rfl) (Nat.le_of_ble_eq_true rfl) hX (Nat.le_of_ble_eq_true rfl) (Nat.le_of_ble_eq_true rfl) (fun n2 hn => ⟨rfl, rfl, hn⟩)

set_option maxRecDepth 100000 in
set_option maxHeartbeats 4000000 in
theorem c_X4_pin_x2 {l : Launch} {D : va_G} {base : Nat} (G : l.stackTraces = false) {h : zH} {n : Nat} {a : Nat} {β τ : zB} {rf : Nat → Option Nat} {φ : Nat → Int32} {c π : zB} {sn : Option Nat} {o s : Int32} {r c1 : Int32} (f0 : ¬ (inV r 0 7) = 0) (f1 : (inV c1 0 6) = 0) :
    zCt l D base 8 yX4_pin w_X4_pin [.ref a, .int r, .int c1] (zTo h a β τ o s rf φ c π sn) n 1 6 (zTX "java/lang/IndexOutOfBoundsException" (zTo h a β τ o s rf φ c π sn) n) := by
  refine zCt.of G (by decide) (Nat.le_of_ble_eq_true rfl) (fun Sx V X hV hE hX => ?_)
  show V 0 [(0, .ref a), (1, .int r), (2, .int c1)] [] (zTo h a β τ o s rf φ c π sn) n 0 0
  refine hV.iload_n 1 dX4_pin_0 rfl ?_
  refine hV.bipush (v := 8) dX4_pin_1 (by decide) ?_
  refine hV.callS1 (rest := []) dX4_pin_3 (c_X4_checkIndex_o G (k := 7) (by decide) (by exact f0)) my_X4_checkIndex ks_X4_43 rfl rfl (Nat.le_of_ble_eq_true rfl) (Nat.le_of_ble_eq_true rfl) (Nat.le_of_ble_eq_true rfl) (Nat.le_of_ble_eq_true rfl) (Nat.le_of_ble_eq_true rfl) (st2 := []) (k2 := 0) (g2 := 0) rfl rfl rfl ?_
  refine hV.iload_n 2 dX4_pin_6 rfl ?_
  refine hV.bipush (v := 7) dX4_pin_7 (by decide) ?_
  exact hV.callSx (rest := []) dX4_pin_9 (c_X4_checkIndex_x G (k := 6) (by decide) (by exact f1)) my_X4_checkIndex ks_X4_43 rfl rfl (Nat.le_of_ble_eq_true rfl) (Nat.le_of_ble_eq_true rfl) (Nat.le_of_ble_eq_true rfl) (Nat.le_of_ble_eq_true rfl) (Nat.le_of_ble_eq_true rfl) hX (Nat.le_of_ble_eq_true rfl) (Nat.le_of_ble_eq_true rfl) (fun n2 hn => ⟨rfl, rfl, hn⟩)

set_option maxRecDepth 100000 in
set_option maxHeartbeats 4000000 in
theorem c_X4_pin {l : Launch} {D : va_G} {base : Nat} (G : l.stackTraces = false) {h : zH} {n : Nat} {a : Nat} {β τ : zB} {rf : Nat → Option Nat} {φ : Nat → Int32} {c π : zB} {sn : Option Nat} {o s : Int32} {r c1 : Nat} (hr : r < 8) (hc : c1 < 7) :
    zCt l D base 8 yX4_pin w_X4_pin [.ref a, .int (nI r), .int (nI c1)] (zTo h a β τ o s rf φ c π sn) n 0 0 (zR (some (.int (β 1 (r * 7 + c1) + 1))) (zTo h a β τ o s rf φ c π sn) (n)) := by
  refine zCt.of G (by decide) (Nat.le_of_ble_eq_true rfl) (fun Sx V X hV hE hX => ?_)
  show V 0 [(0, .ref a), (1, .int (nI r)), (2, .int (nI c1))] [] (zTo h a β τ o s rf φ c π sn) n 0 0
  have f0 : ¬ (inV (nI r) 0 7) = 0 := (inV_T (inV_r7 hr))
  have f1 : ¬ (inV (nI c1) 0 6) = 0 := (inV_T (inV_c6 hc))
  refine hV.iload_n 1 dX4_pin_0 rfl ?_
  refine hV.bipush (v := 8) dX4_pin_1 (by decide) ?_
  refine hV.callS1 (rest := []) dX4_pin_3 (c_X4_checkIndex_o G (k := 7) (by decide) (by exact f0)) my_X4_checkIndex ks_X4_43 rfl rfl (Nat.le_of_ble_eq_true rfl) (Nat.le_of_ble_eq_true rfl) (Nat.le_of_ble_eq_true rfl) (Nat.le_of_ble_eq_true rfl) (Nat.le_of_ble_eq_true rfl) (st2 := []) (k2 := 0) (g2 := 0) rfl rfl rfl ?_
  refine hV.iload_n 2 dX4_pin_6 rfl ?_
  refine hV.bipush (v := 7) dX4_pin_7 (by decide) ?_
  refine hV.callS1 (rest := []) dX4_pin_9 (c_X4_checkIndex_o G (k := 6) (by decide) (by exact f1)) my_X4_checkIndex ks_X4_43 rfl rfl (Nat.le_of_ble_eq_true rfl) (Nat.le_of_ble_eq_true rfl) (Nat.le_of_ble_eq_true rfl) (Nat.le_of_ble_eq_true rfl) (Nat.le_of_ble_eq_true rfl) (st2 := []) (k2 := 0) (g2 := 0) rfl rfl rfl ?_
  refine hV.aload_n 0 dX4_pin_12 rfl ?_
  refine hV.getf (v := .ref (a + 1)) dX4_pin_13 fl_X4_12 To_o rfl ?_
  refine hV.getf (v := .ref (a + 1 + 2)) dX4_pin_16 fl_X4_135 To_B.1 rfl ?_
  refine hV.iload_n 1 dX4_pin_19 rfl ?_
  refine hV.bipush (v := 7) dX4_pin_20 (by decide) ?_
  refine hV.imulN (a := r) (b := 7) dX4_pin_22 ?_
  refine hV.iload_n 2 dX4_pin_23 rfl ?_
  refine hV.iaddN (a := r * 7) (b := c1) dX4_pin_24 ?_
  refine hV.iald (j := (r * 7) + c1) dX4_pin_25 (zobjAt.arr To_B 1 56 (by decide) rfl) (zix_nI (by omega)) (by omega) ?_
  refine hV.iconst (v := 1) dX4_pin_26 (by decide) ?_
  refine hV.iadd dX4_pin_27 ?_
  exact hE.1 dX4_pin_28 rfl rfl (by decide) (by decide) (zRi rfl rfl rfl)

set_option maxRecDepth 100000 in
set_option maxHeartbeats 4000000 in
theorem c_X4_touched_x1 {l : Launch} {D : va_G} {base : Nat} (G : l.stackTraces = false) {h : zH} {n : Nat} {a : Nat} {β τ : zB} {rf : Nat → Option Nat} {φ : Nat → Int32} {c π : zB} {sn : Option Nat} {o s : Int32} {w : Int32} (f0 : (inV w 0 7) = 0) :
    zCt l D base 8 yX4_touched w_X4_touched [.ref a, .int w] (zTo h a β τ o s rf φ c π sn) n 1 6 (zTX "java/lang/IllegalArgumentException" (zTo h a β τ o s rf φ c π sn) n) := by
  refine zCt.of G (by decide) (Nat.le_of_ble_eq_true rfl) (fun Sx V X hV hE hX => ?_)
  show V 0 [(0, .ref a), (1, .int w)] [] (zTo h a β τ o s rf φ c π sn) n 0 0
  refine hV.iload_n 1 dX4_touched_0 rfl ?_
  refine hV.iconst (v := 0) dX4_touched_1 (by decide) ?_
  refine hV.bipush (v := 7) dX4_touched_2 (by decide) ?_
  exact hV.callSx (rest := []) dX4_touched_4 (c_X4_checkValue_x G (by exact f0)) my_X4_checkValue ks_X4_47 rfl rfl (Nat.le_of_ble_eq_true rfl) (Nat.le_of_ble_eq_true rfl) (Nat.le_of_ble_eq_true rfl) (Nat.le_of_ble_eq_true rfl) (Nat.le_of_ble_eq_true rfl) hX (Nat.le_of_ble_eq_true rfl) (Nat.le_of_ble_eq_true rfl) (fun n2 hn => ⟨rfl, rfl, hn⟩)

set_option maxRecDepth 100000 in
set_option maxHeartbeats 4000000 in
theorem c_X4_touched {l : Launch} {D : va_G} {base : Nat} (G : l.stackTraces = false) {h : zH} {n : Nat} {a : Nat} {β τ : zB} {rf : Nat → Option Nat} {φ : Nat → Int32} {c π : zB} {sn : Option Nat} {o s : Int32} {r : Nat} (hr : r < 8) :
    zCt l D base 8 yX4_touched w_X4_touched [.ref a, .int (nI r)] (zTo h a β τ o s rf φ c π sn) n 0 0 (zR (some (.int (β 3 r))) (zTo h a β τ o s rf φ c π sn) (n)) := by
  refine zCt.of G (by decide) (Nat.le_of_ble_eq_true rfl) (fun Sx V X hV hE hX => ?_)
  show V 0 [(0, .ref a), (1, .int (nI r))] [] (zTo h a β τ o s rf φ c π sn) n 0 0
  have f0 : ¬ (inV (nI r) 0 7) = 0 := (inV_T (inV_r7 hr))
  refine hV.iload_n 1 dX4_touched_0 rfl ?_
  refine hV.iconst (v := 0) dX4_touched_1 (by decide) ?_
  refine hV.bipush (v := 7) dX4_touched_2 (by decide) ?_
  refine hV.callS1 (rest := []) dX4_touched_4 (c_X4_checkValue G (by exact f0)) my_X4_checkValue ks_X4_47 rfl rfl (Nat.le_of_ble_eq_true rfl) (Nat.le_of_ble_eq_true rfl) (Nat.le_of_ble_eq_true rfl) (Nat.le_of_ble_eq_true rfl) (Nat.le_of_ble_eq_true rfl) (st2 := []) (k2 := 0) (g2 := 0) rfl rfl rfl ?_
  refine hV.aload_n 0 dX4_touched_7 rfl ?_
  refine hV.getf (v := .ref (a + 1)) dX4_touched_8 fl_X4_12 To_o rfl ?_
  refine hV.getf (v := .ref (a + 1 + 4)) dX4_touched_11 fl_X4_141 To_B.1 rfl ?_
  refine hV.iload_n 1 dX4_touched_14 rfl ?_
  refine hV.iald (j := r) dX4_touched_15 (zobjAt.arr To_B 3 8 (by decide) rfl) (zix_nI (by omega)) (by omega) ?_
  exact hE.1 dX4_touched_16 rfl rfl (by decide) (by decide) (zRi rfl rfl rfl)

set_option maxRecDepth 100000 in
set_option maxHeartbeats 4000000 in
theorem c_X4_pocketOf_x1 {l : Launch} {D : va_G} {base : Nat} (G : l.stackTraces = false) {h : zH} {n : Nat} {a : Nat} {β τ : zB} {rf : Nat → Option Nat} {φ : Nat → Int32} {c π : zB} {sn : Option Nat} {o s : Int32} {p w : Int32} (f0 : (inV p 0 6) = 0) :
    zCt l D base 8 yX4_pocketOf w_X4_pocketOf [.ref a, .int p, .int w] (zTo h a β τ o s rf φ c π sn) n 1 6 (zTX "java/lang/IndexOutOfBoundsException" (zTo h a β τ o s rf φ c π sn) n) := by
  refine zCt.of G (by decide) (Nat.le_of_ble_eq_true rfl) (fun Sx V X hV hE hX => ?_)
  show V 0 [(0, .ref a), (1, .int p), (2, .int w)] [] (zTo h a β τ o s rf φ c π sn) n 0 0
  refine hV.iload_n 1 dX4_pocketOf_0 rfl ?_
  refine hV.bipush (v := 7) dX4_pocketOf_1 (by decide) ?_
  exact hV.callSx (rest := []) dX4_pocketOf_3 (c_X4_checkIndex_x G (k := 6) (by decide) (by exact f0)) my_X4_checkIndex ks_X4_43 rfl rfl (Nat.le_of_ble_eq_true rfl) (Nat.le_of_ble_eq_true rfl) (Nat.le_of_ble_eq_true rfl) (Nat.le_of_ble_eq_true rfl) (Nat.le_of_ble_eq_true rfl) hX (Nat.le_of_ble_eq_true rfl) (Nat.le_of_ble_eq_true rfl) (fun n2 hn => ⟨rfl, rfl, hn⟩)

set_option maxRecDepth 100000 in
set_option maxHeartbeats 4000000 in
theorem c_X4_pocketOf_x2 {l : Launch} {D : va_G} {base : Nat} (G : l.stackTraces = false) {h : zH} {n : Nat} {a : Nat} {β τ : zB} {rf : Nat → Option Nat} {φ : Nat → Int32} {c π : zB} {sn : Option Nat} {o s : Int32} {p w : Int32} (f0 : ¬ (inV p 0 6) = 0) (f1 : (inV w 0 4) = 0) :
    zCt l D base 8 yX4_pocketOf w_X4_pocketOf [.ref a, .int p, .int w] (zTo h a β τ o s rf φ c π sn) n 1 6 (zTX "java/lang/IllegalArgumentException" (zTo h a β τ o s rf φ c π sn) n) := by
  refine zCt.of G (by decide) (Nat.le_of_ble_eq_true rfl) (fun Sx V X hV hE hX => ?_)
  show V 0 [(0, .ref a), (1, .int p), (2, .int w)] [] (zTo h a β τ o s rf φ c π sn) n 0 0
  refine hV.iload_n 1 dX4_pocketOf_0 rfl ?_
  refine hV.bipush (v := 7) dX4_pocketOf_1 (by decide) ?_
  refine hV.callS1 (rest := []) dX4_pocketOf_3 (c_X4_checkIndex_o G (k := 6) (by decide) (by exact f0)) my_X4_checkIndex ks_X4_43 rfl rfl (Nat.le_of_ble_eq_true rfl) (Nat.le_of_ble_eq_true rfl) (Nat.le_of_ble_eq_true rfl) (Nat.le_of_ble_eq_true rfl) (Nat.le_of_ble_eq_true rfl) (st2 := []) (k2 := 0) (g2 := 0) rfl rfl rfl ?_
  refine hV.iload_n 2 dX4_pocketOf_6 rfl ?_
  refine hV.iconst (v := 0) dX4_pocketOf_7 (by decide) ?_
  refine hV.iconst (v := 4) dX4_pocketOf_8 (by decide) ?_
  exact hV.callSx (rest := []) dX4_pocketOf_9 (c_X4_checkValue_x G (by exact f1)) my_X4_checkValue ks_X4_47 rfl rfl (Nat.le_of_ble_eq_true rfl) (Nat.le_of_ble_eq_true rfl) (Nat.le_of_ble_eq_true rfl) (Nat.le_of_ble_eq_true rfl) (Nat.le_of_ble_eq_true rfl) hX (Nat.le_of_ble_eq_true rfl) (Nat.le_of_ble_eq_true rfl) (fun n2 hn => ⟨rfl, rfl, hn⟩)

set_option maxRecDepth 100000 in
set_option maxHeartbeats 4000000 in
theorem c_X4_pocketOf {l : Launch} {D : va_G} {base : Nat} (G : l.stackTraces = false) {h : zH} {n : Nat} {a : Nat} {β τ : zB} {rf : Nat → Option Nat} {φ : Nat → Int32} {c π : zB} {sn : Option Nat} {o s : Int32} {p w : Nat} (hp : p < 7) (hw : w < 5) :
    zCt l D base 8 yX4_pocketOf w_X4_pocketOf [.ref a, .int (nI p), .int (nI w)] (zTo h a β τ o s rf φ c π sn) n 0 0 (zR (some (.int (tellV β p w))) (zTo h a β τ o s rf φ c π sn) (n)) := by
  refine zCt.of G (by decide) (Nat.le_of_ble_eq_true rfl) (fun Sx V X hV hE hX => ?_)
  show V 0 [(0, .ref a), (1, .int (nI p)), (2, .int (nI w))] [] (zTo h a β τ o s rf φ c π sn) n 0 0
  have f0 : ¬ (inV (nI p) 0 6) = 0 := (inV_T (inV_c6 hp))
  have f1 : ¬ (inV (nI w) 0 4) = 0 := (inV_T (inV_N (lo := 0) (hi := 4) (by omega) (by omega) (by decide)))
  refine hV.iload_n 1 dX4_pocketOf_0 rfl ?_
  refine hV.bipush (v := 7) dX4_pocketOf_1 (by decide) ?_
  refine hV.callS1 (rest := []) dX4_pocketOf_3 (c_X4_checkIndex_o G (k := 6) (by decide) (by exact f0)) my_X4_checkIndex ks_X4_43 rfl rfl (Nat.le_of_ble_eq_true rfl) (Nat.le_of_ble_eq_true rfl) (Nat.le_of_ble_eq_true rfl) (Nat.le_of_ble_eq_true rfl) (Nat.le_of_ble_eq_true rfl) (st2 := []) (k2 := 0) (g2 := 0) rfl rfl rfl ?_
  refine hV.iload_n 2 dX4_pocketOf_6 rfl ?_
  refine hV.iconst (v := 0) dX4_pocketOf_7 (by decide) ?_
  refine hV.iconst (v := 4) dX4_pocketOf_8 (by decide) ?_
  refine hV.callS1 (rest := []) dX4_pocketOf_9 (c_X4_checkValue G (by exact f1)) my_X4_checkValue ks_X4_47 rfl rfl (Nat.le_of_ble_eq_true rfl) (Nat.le_of_ble_eq_true rfl) (Nat.le_of_ble_eq_true rfl) (Nat.le_of_ble_eq_true rfl) (Nat.le_of_ble_eq_true rfl) (st2 := []) (k2 := 0) (g2 := 0) rfl rfl rfl ?_
  refine hV.aload_n 0 dX4_pocketOf_12 rfl ?_
  refine hV.getf (v := .ref (a + 1)) dX4_pocketOf_13 fl_X4_12 To_o rfl ?_
  refine hV.iload_n 1 dX4_pocketOf_16 rfl ?_
  refine hV.iload_n 2 dX4_pocketOf_17 rfl ?_
  refine zHeap (h2 := setB (zTo h a β τ o s rf φ c π sn) (a + 1) β) (To_B.set.symm) ?_
  refine hV.callV1 (rest := []) dX4_pocketOf_18 (c_X0_tellPocket G (p := p) (w := w) (by omega) (by omega)) my_X0_tellPocket kv_X4_144 B_o rfl rfl rfl (Nat.le_of_ble_eq_true rfl) (Nat.le_of_ble_eq_true rfl) (Nat.le_of_ble_eq_true rfl) (Nat.le_of_ble_eq_true rfl) (Nat.le_of_ble_eq_true rfl) (st2 := [.int (tellV β p w)]) (k2 := 0) (g2 := 0) rfl rfl rfl ?_
  refine zHeap (h2 := zTo h a β τ o s rf φ c π sn) To_B' ?_
  exact hE.1 dX4_pocketOf_21 rfl rfl (by decide) (by decide) (zRi rfl rfl rfl)

set_option maxRecDepth 100000 in
set_option maxHeartbeats 4000000 in
theorem c_X4_reel_x1 {l : Launch} {D : va_G} {base : Nat} (G : l.stackTraces = false) {h : zH} {n : Nat} {a : Nat} {β τ : zB} {rf : Nat → Option Nat} {φ : Nat → Int32} {c π : zB} {sn : Option Nat} {o s : Int32} {w : Int32} (f0 : (inV w 0 2) = 0) :
    zCt l D base 8 yX4_reel w_X4_reel [.ref a, .int w] (zTo h a β τ o s rf φ c π sn) n 1 6 (zTX "java/lang/IndexOutOfBoundsException" (zTo h a β τ o s rf φ c π sn) n) := by
  refine zCt.of G (by decide) (Nat.le_of_ble_eq_true rfl) (fun Sx V X hV hE hX => ?_)
  show V 0 [(0, .ref a), (1, .int w)] [] (zTo h a β τ o s rf φ c π sn) n 0 0
  refine hV.iload_n 1 dX4_reel_0 rfl ?_
  refine hV.iconst (v := 3) dX4_reel_1 (by decide) ?_
  exact hV.callSx (rest := []) dX4_reel_2 (c_X4_checkIndex_x G (k := 2) (by decide) (by exact f0)) my_X4_checkIndex ks_X4_43 rfl rfl (Nat.le_of_ble_eq_true rfl) (Nat.le_of_ble_eq_true rfl) (Nat.le_of_ble_eq_true rfl) (Nat.le_of_ble_eq_true rfl) (Nat.le_of_ble_eq_true rfl) hX (Nat.le_of_ble_eq_true rfl) (Nat.le_of_ble_eq_true rfl) (fun n2 hn => ⟨rfl, rfl, hn⟩)

set_option maxRecDepth 100000 in
set_option maxHeartbeats 4000000 in
theorem c_X4_reel {l : Launch} {D : va_G} {base : Nat} (G : l.stackTraces = false) {h : zH} {n : Nat} {a : Nat} {β τ : zB} {rf : Nat → Option Nat} {φ : Nat → Int32} {c π : zB} {sn : Option Nat} {o s : Int32} {w : Nat} (hw : w < 3) :
    zCt l D base 8 yX4_reel w_X4_reel [.ref a, .int (nI w)] (zTo h a β τ o s rf φ c π sn) n 0 0 (zR (some (.int (β 9 w))) (zTo h a β τ o s rf φ c π sn) (n)) := by
  refine zCt.of G (by decide) (Nat.le_of_ble_eq_true rfl) (fun Sx V X hV hE hX => ?_)
  show V 0 [(0, .ref a), (1, .int (nI w))] [] (zTo h a β τ o s rf φ c π sn) n 0 0
  have f0 : ¬ (inV (nI w) 0 2) = 0 := (inV_T (inV_N (lo := 0) (hi := 2) (by omega) (by omega) (by decide)))
  refine hV.iload_n 1 dX4_reel_0 rfl ?_
  refine hV.iconst (v := 3) dX4_reel_1 (by decide) ?_
  refine hV.callS1 (rest := []) dX4_reel_2 (c_X4_checkIndex_o G (k := 2) (by decide) (by exact f0)) my_X4_checkIndex ks_X4_43 rfl rfl (Nat.le_of_ble_eq_true rfl) (Nat.le_of_ble_eq_true rfl) (Nat.le_of_ble_eq_true rfl) (Nat.le_of_ble_eq_true rfl) (Nat.le_of_ble_eq_true rfl) (st2 := []) (k2 := 0) (g2 := 0) rfl rfl rfl ?_
  refine hV.aload_n 0 dX4_reel_5 rfl ?_
  refine hV.getf (v := .ref (a + 1)) dX4_reel_6 fl_X4_12 To_o rfl ?_
  refine hV.getf (v := .ref (a + 1 + 10)) dX4_reel_9 fl_X4_147 To_B.1 rfl ?_
  refine hV.iload_n 1 dX4_reel_12 rfl ?_
  refine hV.iald (j := w) dX4_reel_13 (zobjAt.arr To_B 9 3 (by decide) rfl) (zix_nI (by omega)) (by omega) ?_
  exact hE.1 dX4_reel_14 rfl rfl (by decide) (by decide) (zRi rfl rfl rfl)

set_option maxRecDepth 100000 in
set_option maxHeartbeats 4000000 in
theorem c_X4_count_x1 {l : Launch} {D : va_G} {base : Nat} (G : l.stackTraces = false) {h : zH} {n : Nat} {a : Nat} {β τ : zB} {rf : Nat → Option Nat} {φ : Nat → Int32} {c π : zB} {sn : Option Nat} {o s : Int32} {w : Int32} (f0 : (inV w 0 17) = 0) :
    zCt l D base 8 yX4_count w_X4_count [.ref a, .int w] (zTo h a β τ o s rf φ c π sn) n 1 6 (zTX "java/lang/IllegalArgumentException" (zTo h a β τ o s rf φ c π sn) n) := by
  refine zCt.of G (by decide) (Nat.le_of_ble_eq_true rfl) (fun Sx V X hV hE hX => ?_)
  show V 0 [(0, .ref a), (1, .int w)] [] (zTo h a β τ o s rf φ c π sn) n 0 0
  refine hV.iload_n 1 dX4_count_0 rfl ?_
  refine hV.iconst (v := 0) dX4_count_1 (by decide) ?_
  refine hV.bipush (v := 17) dX4_count_2 (by decide) ?_
  exact hV.callSx (rest := []) dX4_count_4 (c_X4_checkValue_x G (by exact f0)) my_X4_checkValue ks_X4_47 rfl rfl (Nat.le_of_ble_eq_true rfl) (Nat.le_of_ble_eq_true rfl) (Nat.le_of_ble_eq_true rfl) (Nat.le_of_ble_eq_true rfl) (Nat.le_of_ble_eq_true rfl) hX (Nat.le_of_ble_eq_true rfl) (Nat.le_of_ble_eq_true rfl) (fun n2 hn => ⟨rfl, rfl, hn⟩)

set_option maxRecDepth 100000 in
set_option maxHeartbeats 4000000 in
theorem c_X4_count {l : Launch} {D : va_G} {base : Nat} (G : l.stackTraces = false) {h : zH} {n : Nat} {a : Nat} {β τ : zB} {rf : Nat → Option Nat} {φ : Nat → Int32} {c π : zB} {sn : Option Nat} {o s : Int32} {w : Nat} (hw : w < 18) :
    zCt l D base 8 yX4_count w_X4_count [.ref a, .int (nI w)] (zTo h a β τ o s rf φ c π sn) n 0 0 (zR (some (.int (if w = 17 then s else β 0 w))) (zTo h a β τ o s rf φ c π sn) (n)) := by
  refine zCt.of G (by decide) (Nat.le_of_ble_eq_true rfl) (fun Sx V X hV hE hX => ?_)
  show V 0 [(0, .ref a), (1, .int (nI w))] [] (zTo h a β τ o s rf φ c π sn) n 0 0
  have f0 : ¬ (inV (nI w) 0 17) = 0 := (inV_T (inV_N (lo := 0) (hi := 17) (by omega) (by omega) (by decide)))
  refine hV.iload_n 1 dX4_count_0 rfl ?_
  refine hV.iconst (v := 0) dX4_count_1 (by decide) ?_
  refine hV.bipush (v := 17) dX4_count_2 (by decide) ?_
  refine hV.callS1 (rest := []) dX4_count_4 (c_X4_checkValue G (by exact f0)) my_X4_checkValue ks_X4_47 rfl rfl (Nat.le_of_ble_eq_true rfl) (Nat.le_of_ble_eq_true rfl) (Nat.le_of_ble_eq_true rfl) (Nat.le_of_ble_eq_true rfl) (Nat.le_of_ble_eq_true rfl) (st2 := []) (k2 := 0) (g2 := 0) rfl rfl rfl ?_
  refine hV.iload_n 1 dX4_count_7 rfl ?_
  refine hV.bipush (v := 17) dX4_count_8 (by decide) ?_
  by_cases c10_1 : w = 17
  · refine hV.icmp_ne_f (tgt := 23) dX4_count_10 (by decide) ((nI_eq (a := w) (b := 17) (by omega) (by omega)).mpr c10_1) ?_
    refine hV.aload_n 0 dX4_count_13 rfl ?_
    refine hV.getf (v := .ref (a + 23)) dX4_count_14 fl_X4_22 To_o rfl ?_
    refine hV.getf (v := .int s) dX4_count_17 fl_X4_127 To_h rfl ?_
    refine hV.goto (tgt := 32) dX4_count_20 (by decide) ?_
    exact hE.1 dX4_count_32 rfl rfl (by decide) (by decide) (zRi (by rw [if_pos (by omega)]) rfl rfl)
  · refine hV.icmp_ne_t (tgt := 23) dX4_count_10 (by decide) (fun q => absurd ((nI_eq (a := w) (b := 17) (by omega) (by omega)).mp q) c10_1) ?_
    refine hV.aload_n 0 dX4_count_23 rfl ?_
    refine hV.getf (v := .ref (a + 1)) dX4_count_24 fl_X4_12 To_o rfl ?_
    refine hV.getf (v := .ref (a + 1 + 1)) dX4_count_27 fl_X4_71 To_B.1 rfl ?_
    refine hV.iload_n 1 dX4_count_30 rfl ?_
    refine hV.iald (j := w) dX4_count_31 (zobjAt.arr To_B 0 17 (by decide) rfl) (zix_nI (by omega)) (by omega) ?_
    exact hE.1 dX4_count_32 rfl rfl (by decide) (by decide) (zRi (by rw [if_neg (by omega)]) rfl rfl)

