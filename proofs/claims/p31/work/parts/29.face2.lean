/-! The face: append, ways, a launch that is tried -/
theorem cpB_at {α β : zB} {j i : Nat} (hj : j < 10) (hi : i < lnB j) : cpB α β j i = β j i := by
  unfold cpB
  rw [if_pos hj]
  simp [va_cpy, hi]
theorem pinOk_cp {α β : zB} (h : pinOk (β 1)) : pinOk (cpB α β 1) := fun i hi => by rw [cpB_at (by decide) hi]; exact h i hi
def tdV (τ β : zB) (w : Nat) : Int32 := if w = 0 then τ 0 11 else if w = 1 then τ 0 3 - β 0 3 else if w = 2 then τ 0 6 else τ 0 9
def tuN (c : Nat) : Nat → zB → Nat → Int32
  | 0, _, _ => -1
  | k + 1, τ, m => if 0 < lchB τ c 0 9 then nI m else tuN c k (lchB τ c) (m + 1)
def tuV (β τ : zB) (c : Nat) : Int32 := if 0 < β 0 9 then 0 else tuN c 200 (cpB τ β) 1

set_option maxRecDepth 100000 in
set_option maxHeartbeats 4000000 in
theorem c_X4_ways_x1 {l : Launch} {D : va_G} {base : Nat} (G : l.stackTraces = false) {h : zH} {n : Nat} {a : Nat} {β τ : zB} {rf : Nat → Option Nat} {φ : Nat → Int32} {c π : zB} {sn : Option Nat} {o s : Int32} {w u : Int32} (f0 : (inV w 0 6) = 0) :
    zCt l D base 8 yX4_ways w_X4_ways [.ref a, .int w, .int u] (zTo h a β τ o s rf φ c π sn) n 1 6 (zTX "java/lang/IndexOutOfBoundsException" (zTo h a β τ o s rf φ c π sn) n) := by
  refine zCt.of G (by decide) (Nat.le_of_ble_eq_true rfl) (fun Sx V X hV hE hX => ?_)
  show V 0 [(0, .ref a), (1, .int w), (2, .int u)] [] (zTo h a β τ o s rf φ c π sn) n 0 0
  refine hV.iload_n 1 dX4_ways_0 rfl ?_
  refine hV.bipush (v := 7) dX4_ways_1 (by decide) ?_
  exact hV.callSx (rest := []) dX4_ways_3 (c_X4_checkIndex_x G (k := 6) (by decide) (by exact f0)) my_X4_checkIndex ks_X4_43 rfl rfl (Nat.le_of_ble_eq_true rfl) (Nat.le_of_ble_eq_true rfl) (Nat.le_of_ble_eq_true rfl) (Nat.le_of_ble_eq_true rfl) (Nat.le_of_ble_eq_true rfl) hX (Nat.le_of_ble_eq_true rfl) (Nat.le_of_ble_eq_true rfl) (fun n2 hn => ⟨rfl, rfl, hn⟩)

set_option maxRecDepth 100000 in
set_option maxHeartbeats 4000000 in
theorem c_X4_ways_x2 {l : Launch} {D : va_G} {base : Nat} (G : l.stackTraces = false) {h : zH} {n : Nat} {a : Nat} {β τ : zB} {rf : Nat → Option Nat} {φ : Nat → Int32} {c π : zB} {sn : Option Nat} {o s : Int32} {w u : Int32} (f0 : ¬ (inV w 0 6) = 0) (f1 : (inV u 0 6) = 0) :
    zCt l D base 8 yX4_ways w_X4_ways [.ref a, .int w, .int u] (zTo h a β τ o s rf φ c π sn) n 1 6 (zTX "java/lang/IndexOutOfBoundsException" (zTo h a β τ o s rf φ c π sn) n) := by
  refine zCt.of G (by decide) (Nat.le_of_ble_eq_true rfl) (fun Sx V X hV hE hX => ?_)
  show V 0 [(0, .ref a), (1, .int w), (2, .int u)] [] (zTo h a β τ o s rf φ c π sn) n 0 0
  refine hV.iload_n 1 dX4_ways_0 rfl ?_
  refine hV.bipush (v := 7) dX4_ways_1 (by decide) ?_
  refine hV.callS1 (rest := []) dX4_ways_3 (c_X4_checkIndex_o G (k := 6) (by decide) (by exact f0)) my_X4_checkIndex ks_X4_43 rfl rfl (Nat.le_of_ble_eq_true rfl) (Nat.le_of_ble_eq_true rfl) (Nat.le_of_ble_eq_true rfl) (Nat.le_of_ble_eq_true rfl) (Nat.le_of_ble_eq_true rfl) (st2 := []) (k2 := 0) (g2 := 0) rfl rfl rfl ?_
  refine hV.iload_n 2 dX4_ways_6 rfl ?_
  refine hV.bipush (v := 7) dX4_ways_7 (by decide) ?_
  exact hV.callSx (rest := []) dX4_ways_9 (c_X4_checkIndex_x G (k := 6) (by decide) (by exact f1)) my_X4_checkIndex ks_X4_43 rfl rfl (Nat.le_of_ble_eq_true rfl) (Nat.le_of_ble_eq_true rfl) (Nat.le_of_ble_eq_true rfl) (Nat.le_of_ble_eq_true rfl) (Nat.le_of_ble_eq_true rfl) hX (Nat.le_of_ble_eq_true rfl) (Nat.le_of_ble_eq_true rfl) (fun n2 hn => ⟨rfl, rfl, hn⟩)

set_option maxRecDepth 100000 in
set_option maxHeartbeats 4000000 in
theorem c_X4_ways {l : Launch} {D : va_G} {base : Nat} (G : l.stackTraces = false) {h : zH} {n : Nat} {a : Nat} {β τ : zB} {rf : Nat → Option Nat} {φ : Nat → Int32} {c π : zB} {sn : Option Nat} {o s : Int32} {c1 p : Nat} (hc : c1 < 7) (hp : p < 7) :
    zCt l D base 12 yX4_ways w_X4_ways [.ref a, .int (nI c1), .int (nI p)] (zTo h a β τ o s rf φ c π sn) n 0 0 (zR (some (.int (cbrP (β 1) c1 π 0 p))) (zTo h a β τ o s rf φ c (cbrP (β 1) c1 π) sn) (n)) := by
  refine zCt.of G (by decide) (Nat.le_of_ble_eq_true rfl) (fun Sx V X hV hE hX => ?_)
  show V 0 [(0, .ref a), (1, .int (nI c1)), (2, .int (nI p))] [] (zTo h a β τ o s rf φ c π sn) n 0 0
  have f0 : ¬ (inV (nI c1) 0 6) = 0 := (inV_T (inV_c6 hc))
  have f1 : ¬ (inV (nI p) 0 6) = 0 := (inV_T (inV_c6 hp))
  refine hV.iload_n 1 dX4_ways_0 rfl ?_
  refine hV.bipush (v := 7) dX4_ways_1 (by decide) ?_
  refine hV.callS1 (rest := []) dX4_ways_3 (c_X4_checkIndex_o G (k := 6) (by decide) (by exact f0)) my_X4_checkIndex ks_X4_43 rfl rfl (Nat.le_of_ble_eq_true rfl) (Nat.le_of_ble_eq_true rfl) (Nat.le_of_ble_eq_true rfl) (Nat.le_of_ble_eq_true rfl) (Nat.le_of_ble_eq_true rfl) (st2 := []) (k2 := 0) (g2 := 0) rfl rfl rfl ?_
  refine hV.iload_n 2 dX4_ways_6 rfl ?_
  refine hV.bipush (v := 7) dX4_ways_7 (by decide) ?_
  refine hV.callS1 (rest := []) dX4_ways_9 (c_X4_checkIndex_o G (k := 6) (by decide) (by exact f1)) my_X4_checkIndex ks_X4_43 rfl rfl (Nat.le_of_ble_eq_true rfl) (Nat.le_of_ble_eq_true rfl) (Nat.le_of_ble_eq_true rfl) (Nat.le_of_ble_eq_true rfl) (Nat.le_of_ble_eq_true rfl) (st2 := []) (k2 := 0) (g2 := 0) rfl rfl rfl ?_
  refine hV.aload_n 0 dX4_ways_12 rfl ?_
  refine hV.getf (v := .ref (a + 27)) dX4_ways_13 fl_X4_36 To_o rfl ?_
  refine hV.aload_n 0 dX4_ways_16 rfl ?_
  refine hV.getf (v := .ref (a + 1)) dX4_ways_17 fl_X4_12 To_o rfl ?_
  refine hV.getf (v := .ref (a + 1 + 2)) dX4_ways_20 fl_X4_135 To_B.1 rfl ?_
  refine hV.iload_n 1 dX4_ways_23 rfl ?_
  refine zHeap (h2 := setP (zTo h a β τ o s rf φ c π sn) (a + 27) π) (To_P.set.symm) ?_
  refine hV.callV1 (rest := []) dX4_ways_24 (c_X2_countByRows G (q := a + 1 + 2) (by omega) (zobjAt.arr To_B 1 56 (by decide) rfl) (c := c1) (by omega)) my_X2_countByRows kv_X4_150 P_o rfl rfl rfl (Nat.le_of_ble_eq_true rfl) (Nat.le_of_ble_eq_true rfl) (Nat.le_of_ble_eq_true rfl) (Nat.le_of_ble_eq_true rfl) (Nat.le_of_ble_eq_true rfl) (st2 := []) (k2 := 0) (g2 := 0) rfl rfl rfl ?_
  refine zHeap (h2 := zTo h a β τ o s rf φ c (cbrP (β 1) c1 π) sn) To_P' ?_
  refine hV.aload_n 0 dX4_ways_27 rfl ?_
  refine hV.getf (v := .ref (a + 27)) dX4_ways_28 fl_X4_36 To_o rfl ?_
  refine hV.getf (v := .ref (a + 27 + 1)) dX4_ways_31 fl_X4_154 To_P.1 rfl ?_
  refine hV.iload_n 2 dX4_ways_34 rfl ?_
  refine hV.iald (j := p) dX4_ways_35 (zobjAt.arr To_P 0 7 (by decide) rfl) (zix_nI (by omega)) (by omega) ?_
  exact hE.1 dX4_ways_36 rfl rfl (by decide) (by decide) (zRi rfl rfl rfl)

set_option maxRecDepth 100000 in
set_option maxHeartbeats 4000000 in
theorem c_X4_walked_x1 {l : Launch} {D : va_G} {base : Nat} (G : l.stackTraces = false) {h : zH} {n : Nat} {a : Nat} {β τ : zB} {rf : Nat → Option Nat} {φ : Nat → Int32} {c π : zB} {sn : Option Nat} {o s : Int32} {w u : Int32} (f0 : (inV w 0 6) = 0) :
    zCt l D base 8 yX4_walked w_X4_walked [.ref a, .int w, .int u] (zTo h a β τ o s rf φ c π sn) n 1 6 (zTX "java/lang/IndexOutOfBoundsException" (zTo h a β τ o s rf φ c π sn) n) := by
  refine zCt.of G (by decide) (Nat.le_of_ble_eq_true rfl) (fun Sx V X hV hE hX => ?_)
  show V 0 [(0, .ref a), (1, .int w), (2, .int u)] [] (zTo h a β τ o s rf φ c π sn) n 0 0
  refine hV.iload_n 1 dX4_walked_0 rfl ?_
  refine hV.bipush (v := 7) dX4_walked_1 (by decide) ?_
  exact hV.callSx (rest := []) dX4_walked_3 (c_X4_checkIndex_x G (k := 6) (by decide) (by exact f0)) my_X4_checkIndex ks_X4_43 rfl rfl (Nat.le_of_ble_eq_true rfl) (Nat.le_of_ble_eq_true rfl) (Nat.le_of_ble_eq_true rfl) (Nat.le_of_ble_eq_true rfl) (Nat.le_of_ble_eq_true rfl) hX (Nat.le_of_ble_eq_true rfl) (Nat.le_of_ble_eq_true rfl) (fun n2 hn => ⟨rfl, rfl, hn⟩)

set_option maxRecDepth 100000 in
set_option maxHeartbeats 4000000 in
theorem c_X4_walked_x2 {l : Launch} {D : va_G} {base : Nat} (G : l.stackTraces = false) {h : zH} {n : Nat} {a : Nat} {β τ : zB} {rf : Nat → Option Nat} {φ : Nat → Int32} {c π : zB} {sn : Option Nat} {o s : Int32} {w u : Int32} (f0 : ¬ (inV w 0 6) = 0) (f1 : (inV u 0 6) = 0) :
    zCt l D base 8 yX4_walked w_X4_walked [.ref a, .int w, .int u] (zTo h a β τ o s rf φ c π sn) n 1 6 (zTX "java/lang/IndexOutOfBoundsException" (zTo h a β τ o s rf φ c π sn) n) := by
  refine zCt.of G (by decide) (Nat.le_of_ble_eq_true rfl) (fun Sx V X hV hE hX => ?_)
  show V 0 [(0, .ref a), (1, .int w), (2, .int u)] [] (zTo h a β τ o s rf φ c π sn) n 0 0
  refine hV.iload_n 1 dX4_walked_0 rfl ?_
  refine hV.bipush (v := 7) dX4_walked_1 (by decide) ?_
  refine hV.callS1 (rest := []) dX4_walked_3 (c_X4_checkIndex_o G (k := 6) (by decide) (by exact f0)) my_X4_checkIndex ks_X4_43 rfl rfl (Nat.le_of_ble_eq_true rfl) (Nat.le_of_ble_eq_true rfl) (Nat.le_of_ble_eq_true rfl) (Nat.le_of_ble_eq_true rfl) (Nat.le_of_ble_eq_true rfl) (st2 := []) (k2 := 0) (g2 := 0) rfl rfl rfl ?_
  refine hV.iload_n 2 dX4_walked_6 rfl ?_
  refine hV.bipush (v := 7) dX4_walked_7 (by decide) ?_
  exact hV.callSx (rest := []) dX4_walked_9 (c_X4_checkIndex_x G (k := 6) (by decide) (by exact f1)) my_X4_checkIndex ks_X4_43 rfl rfl (Nat.le_of_ble_eq_true rfl) (Nat.le_of_ble_eq_true rfl) (Nat.le_of_ble_eq_true rfl) (Nat.le_of_ble_eq_true rfl) (Nat.le_of_ble_eq_true rfl) hX (Nat.le_of_ble_eq_true rfl) (Nat.le_of_ble_eq_true rfl) (fun n2 hn => ⟨rfl, rfl, hn⟩)

set_option maxRecDepth 100000 in
set_option maxHeartbeats 4000000 in
theorem c_X4_walked {l : Launch} {D : va_G} {base : Nat} (G : l.stackTraces = false) {h : zH} {n : Nat} {a : Nat} {β τ : zB} {rf : Nat → Option Nat} {φ : Nat → Int32} {c π : zB} {sn : Option Nat} {o s : Int32} {c1 p : Nat} (hc : c1 < 7) (hp : p < 7) :
    zCt l D base 12 yX4_walked w_X4_walked [.ref a, .int (nI c1), .int (nI p)] (zTo h a β τ o s rf φ c π sn) n 0 0 (zR (some (.int (gawP (β 1) c1 π 1 p))) (zTo h a β τ o s rf φ c (gawP (β 1) c1 π) sn) (n)) := by
  refine zCt.of G (by decide) (Nat.le_of_ble_eq_true rfl) (fun Sx V X hV hE hX => ?_)
  show V 0 [(0, .ref a), (1, .int (nI c1)), (2, .int (nI p))] [] (zTo h a β τ o s rf φ c π sn) n 0 0
  have f0 : ¬ (inV (nI c1) 0 6) = 0 := (inV_T (inV_c6 hc))
  have f1 : ¬ (inV (nI p) 0 6) = 0 := (inV_T (inV_c6 hp))
  refine hV.iload_n 1 dX4_walked_0 rfl ?_
  refine hV.bipush (v := 7) dX4_walked_1 (by decide) ?_
  refine hV.callS1 (rest := []) dX4_walked_3 (c_X4_checkIndex_o G (k := 6) (by decide) (by exact f0)) my_X4_checkIndex ks_X4_43 rfl rfl (Nat.le_of_ble_eq_true rfl) (Nat.le_of_ble_eq_true rfl) (Nat.le_of_ble_eq_true rfl) (Nat.le_of_ble_eq_true rfl) (Nat.le_of_ble_eq_true rfl) (st2 := []) (k2 := 0) (g2 := 0) rfl rfl rfl ?_
  refine hV.iload_n 2 dX4_walked_6 rfl ?_
  refine hV.bipush (v := 7) dX4_walked_7 (by decide) ?_
  refine hV.callS1 (rest := []) dX4_walked_9 (c_X4_checkIndex_o G (k := 6) (by decide) (by exact f1)) my_X4_checkIndex ks_X4_43 rfl rfl (Nat.le_of_ble_eq_true rfl) (Nat.le_of_ble_eq_true rfl) (Nat.le_of_ble_eq_true rfl) (Nat.le_of_ble_eq_true rfl) (Nat.le_of_ble_eq_true rfl) (st2 := []) (k2 := 0) (g2 := 0) rfl rfl rfl ?_
  refine hV.aload_n 0 dX4_walked_12 rfl ?_
  refine hV.getf (v := .ref (a + 27)) dX4_walked_13 fl_X4_36 To_o rfl ?_
  refine hV.aload_n 0 dX4_walked_16 rfl ?_
  refine hV.getf (v := .ref (a + 1)) dX4_walked_17 fl_X4_12 To_o rfl ?_
  refine hV.getf (v := .ref (a + 1 + 2)) dX4_walked_20 fl_X4_135 To_B.1 rfl ?_
  refine hV.iload_n 1 dX4_walked_23 rfl ?_
  refine zHeap (h2 := setP (zTo h a β τ o s rf φ c π sn) (a + 27) π) (To_P.set.symm) ?_
  refine hV.callV1 (rest := []) dX4_walked_24 (c_X2_goAllWays G (q := a + 1 + 2) (by omega) (zobjAt.arr To_B 1 56 (by decide) rfl) (c := c1) (by omega)) my_X2_goAllWays kv_X4_157 P_o rfl rfl rfl (Nat.le_of_ble_eq_true rfl) (Nat.le_of_ble_eq_true rfl) (Nat.le_of_ble_eq_true rfl) (Nat.le_of_ble_eq_true rfl) (Nat.le_of_ble_eq_true rfl) (st2 := []) (k2 := 0) (g2 := 0) rfl rfl rfl ?_
  refine zHeap (h2 := zTo h a β τ o s rf φ c (gawP (β 1) c1 π) sn) To_P' ?_
  refine hV.aload_n 0 dX4_walked_27 rfl ?_
  refine hV.getf (v := .ref (a + 27)) dX4_walked_28 fl_X4_36 To_o rfl ?_
  refine hV.getf (v := .ref (a + 27 + 2)) dX4_walked_31 fl_X4_160 To_P.1 rfl ?_
  refine hV.iload_n 2 dX4_walked_34 rfl ?_
  refine hV.iald (j := p) dX4_walked_35 (zobjAt.arr To_P 1 7 (by decide) rfl) (zix_nI (by omega)) (by omega) ?_
  exact hE.1 dX4_walked_36 rfl rfl (by decide) (by decide) (zRi rfl rfl rfl)

set_option maxRecDepth 100000 in
set_option maxHeartbeats 4000000 in
theorem c_X4_tryLaunch {l : Launch} {D : va_G} {base : Nat} (G : l.stackTraces = false) {h : zH} {n : Nat} {a : Nat} {β τ : zB} {rf : Nat → Option Nat} {φ : Nat → Int32} {c π : zB} {sn : Option Nat} {o s : Int32} (hp : pinOk (β 1)) {c1 : Nat} (hc : c1 < 7) :
    zCt l D base 5 yX4_tryLaunch w_X4_tryLaunch [.ref a, .int (nI c1)] (zTo h a β τ o s rf φ c π sn) n 0 0 (zR none (zTo h a β (lchB (cpB τ β) c1) o s rf φ c π sn) (n)) := by
  refine zCt.of G (by decide) (Nat.le_of_ble_eq_true rfl) (fun Sx V X hV hE hX => ?_)
  show V 0 [(0, .ref a), (1, .int (nI c1))] [] (zTo h a β τ o s rf φ c π sn) n 0 0
  refine hV.aload_n 0 dX4_tryLaunch_0 rfl ?_
  refine hV.getf (v := .ref (a + 12)) dX4_tryLaunch_1 fl_X4_16 To_o rfl ?_
  refine hV.aload_n 0 dX4_tryLaunch_4 rfl ?_
  refine hV.getf (v := .ref (a + 1)) dX4_tryLaunch_5 fl_X4_12 To_o rfl ?_
  refine zHeap (h2 := setB (setB (zTo h a β τ o s rf φ c π sn) (a + 1) β) (a + 12) τ) ((To_R.set.symm).trans (congrArg (fun w => setB w (a + 12) τ) To_B.set.symm)) ?_
  refine hV.callV1 (rest := []) dX4_tryLaunch_8 (c_X0_copyFrom G (by omega)) my_X0_copyFrom kv_X4_130 B_o rfl rfl rfl (Nat.le_of_ble_eq_true rfl) (Nat.le_of_ble_eq_true rfl) (Nat.le_of_ble_eq_true rfl) (Nat.le_of_ble_eq_true rfl) (Nat.le_of_ble_eq_true rfl) (st2 := []) (k2 := 0) (g2 := 0) rfl rfl rfl ?_
  refine zHeap (h2 := zTo h a β (cpB τ β) o s rf φ c π sn) ((congrArg (fun w => setB w (a + 12) (cpB τ β)) To_B.set).trans To_R') ?_
  refine hV.aload_n 0 dX4_tryLaunch_11 rfl ?_
  refine hV.getf (v := .ref (a + 12)) dX4_tryLaunch_12 fl_X4_16 To_o rfl ?_
  refine hV.iload_n 1 dX4_tryLaunch_15 rfl ?_
  refine zHeap (h2 := setB (zTo h a β (cpB τ β) o s rf φ c π sn) (a + 12) (cpB τ β)) (To_R.set.symm) ?_
  refine hV.callV1 (rest := []) dX4_tryLaunch_16 (c_X0_launchBall G (c := c1) (by omega) (pinOk_cp hp)) my_X0_launchBall kv_X4_82 B_o rfl rfl rfl (Nat.le_of_ble_eq_true rfl) (Nat.le_of_ble_eq_true rfl) (Nat.le_of_ble_eq_true rfl) (Nat.le_of_ble_eq_true rfl) (Nat.le_of_ble_eq_true rfl) (st2 := [.int (lchR (cpB τ β) c1)]) (k2 := 0) (g2 := 0) rfl rfl rfl ?_
  refine zHeap (h2 := zTo h a β (lchB (cpB τ β) c1) o s rf φ c π sn) To_R' ?_
  refine hV.pop dX4_tryLaunch_19 rfl ?_
  exact hE.2.2.2 dX4_tryLaunch_20 rfl (by decide) (by decide) (zRv rfl rfl)

set_option maxRecDepth 100000 in
set_option maxHeartbeats 4000000 in
theorem c_X4_tellTried {l : Launch} {D : va_G} {base : Nat} (G : l.stackTraces = false) {h : zH} {n : Nat} {a : Nat} {β τ : zB} {rf : Nat → Option Nat} {φ : Nat → Int32} {c π : zB} {sn : Option Nat} {o s : Int32} {w : Nat} (hw : w < 4) :
    zCt l D base 1 yX4_tellTried w_X4_tellTried [.ref a, .int (nI w)] (zTo h a β τ o s rf φ c π sn) n 0 0 (zR (some (.int (tdV τ β w))) (zTo h a β τ o s rf φ c π sn) (n)) := by
  refine zCt.of G (by decide) (Nat.le_of_ble_eq_true rfl) (fun Sx V X hV hE hX => ?_)
  show V 0 [(0, .ref a), (1, .int (nI w))] [] (zTo h a β τ o s rf φ c π sn) n 0 0
  rcases (show w = 0 ∨ w = 1 ∨ w = 2 ∨ w = 3 by omega) with rfl | rfl | rfl | rfl
  · skip
    show V 0 [(0, .ref a), (1, .int 0)] [] (zTo h a β τ o s rf φ c π sn) n 0 0
    refine hV.iload_n 1 dX4_tellTried_0 rfl ?_
    refine hV.tblin (off := 27) (tgt := 28) dX4_tellTried_1 (by decide) (by decide) (by decide) (by decide) ?_
    refine hV.aload_n 0 dX4_tellTried_28 rfl ?_
    refine hV.getf (v := .ref (a + 12)) dX4_tellTried_29 fl_X4_16 To_o rfl ?_
    refine hV.getf (v := .ref (a + 12 + 1)) dX4_tellTried_32 fl_X4_71 To_R.1 rfl ?_
    refine hV.bipush (v := 11) dX4_tellTried_35 (by decide) ?_
    refine hV.iald (j := 11) dX4_tellTried_37 (zobjAt.arr To_R 0 17 (by decide) rfl) ⟨by decide, by decide⟩ (by decide) ?_
    exact hE.1 dX4_tellTried_38 rfl rfl (by decide) (by decide) (zRi (by simp [tdV]) rfl rfl)
  · skip
    show V 0 [(0, .ref a), (1, .int 1)] [] (zTo h a β τ o s rf φ c π sn) n 0 0
    refine hV.iload_n 1 dX4_tellTried_0 rfl ?_
    refine hV.tblin (off := 38) (tgt := 39) dX4_tellTried_1 (by decide) (by decide) (by decide) (by decide) ?_
    refine hV.aload_n 0 dX4_tellTried_39 rfl ?_
    refine hV.getf (v := .ref (a + 12)) dX4_tellTried_40 fl_X4_16 To_o rfl ?_
    refine hV.getf (v := .ref (a + 12 + 1)) dX4_tellTried_43 fl_X4_71 To_R.1 rfl ?_
    refine hV.iconst (v := 3) dX4_tellTried_46 (by decide) ?_
    refine hV.iald (j := 3) dX4_tellTried_47 (zobjAt.arr To_R 0 17 (by decide) rfl) ⟨by decide, by decide⟩ (by decide) ?_
    refine hV.aload_n 0 dX4_tellTried_48 rfl ?_
    refine hV.getf (v := .ref (a + 1)) dX4_tellTried_49 fl_X4_12 To_o rfl ?_
    refine hV.getf (v := .ref (a + 1 + 1)) dX4_tellTried_52 fl_X4_71 To_B.1 rfl ?_
    refine hV.iconst (v := 3) dX4_tellTried_55 (by decide) ?_
    refine hV.iald (j := 3) dX4_tellTried_56 (zobjAt.arr To_B 0 17 (by decide) rfl) ⟨by decide, by decide⟩ (by decide) ?_
    refine hV.isub dX4_tellTried_57 ?_
    exact hE.1 dX4_tellTried_58 rfl rfl (by decide) (by decide) (zRi (by simp [tdV]) rfl rfl)
  · skip
    show V 0 [(0, .ref a), (1, .int 2)] [] (zTo h a β τ o s rf φ c π sn) n 0 0
    refine hV.iload_n 1 dX4_tellTried_0 rfl ?_
    refine hV.tblin (off := 58) (tgt := 59) dX4_tellTried_1 (by decide) (by decide) (by decide) (by decide) ?_
    refine hV.aload_n 0 dX4_tellTried_59 rfl ?_
    refine hV.getf (v := .ref (a + 12)) dX4_tellTried_60 fl_X4_16 To_o rfl ?_
    refine hV.getf (v := .ref (a + 12 + 1)) dX4_tellTried_63 fl_X4_71 To_R.1 rfl ?_
    refine hV.bipush (v := 6) dX4_tellTried_66 (by decide) ?_
    refine hV.iald (j := 6) dX4_tellTried_68 (zobjAt.arr To_R 0 17 (by decide) rfl) ⟨by decide, by decide⟩ (by decide) ?_
    exact hE.1 dX4_tellTried_69 rfl rfl (by decide) (by decide) (zRi (by simp [tdV]) rfl rfl)
  · skip
    show V 0 [(0, .ref a), (1, .int 3)] [] (zTo h a β τ o s rf φ c π sn) n 0 0
    refine hV.iload_n 1 dX4_tellTried_0 rfl ?_
    refine hV.tblout (tgt := 70) dX4_tellTried_1 (by decide) (by decide) ?_
    refine hV.aload_n 0 dX4_tellTried_70 rfl ?_
    refine hV.getf (v := .ref (a + 12)) dX4_tellTried_71 fl_X4_16 To_o rfl ?_
    refine hV.getf (v := .ref (a + 12 + 1)) dX4_tellTried_74 fl_X4_71 To_R.1 rfl ?_
    refine hV.bipush (v := 9) dX4_tellTried_77 (by decide) ?_
    refine hV.iald (j := 9) dX4_tellTried_79 (zobjAt.arr To_R 0 17 (by decide) rfl) ⟨by decide, by decide⟩ (by decide) ?_
    exact hE.1 dX4_tellTried_80 rfl rfl (by decide) (by decide) (zRi (by simp [tdV]) rfl rfl)

set_option maxRecDepth 100000 in
set_option maxHeartbeats 4000000 in
theorem c_X4_ifLaunched_x1 {l : Launch} {D : va_G} {base : Nat} (G : l.stackTraces = false) {h : zH} {n : Nat} {a : Nat} {β τ : zB} {rf : Nat → Option Nat} {φ : Nat → Int32} {c π : zB} {sn : Option Nat} {o s : Int32} {u w : Int32} (f0 : (inV u 0 6) = 0) :
    zCt l D base 8 yX4_ifLaunched w_X4_ifLaunched [.ref a, .int u, .int w] (zTo h a β τ o s rf φ c π sn) n 1 6 (zTX "java/lang/IndexOutOfBoundsException" (zTo h a β τ o s rf φ c π sn) n) := by
  refine zCt.of G (by decide) (Nat.le_of_ble_eq_true rfl) (fun Sx V X hV hE hX => ?_)
  show V 0 [(0, .ref a), (1, .int u), (2, .int w)] [] (zTo h a β τ o s rf φ c π sn) n 0 0
  refine hV.iload_n 1 dX4_ifLaunched_0 rfl ?_
  refine hV.bipush (v := 7) dX4_ifLaunched_1 (by decide) ?_
  exact hV.callSx (rest := []) dX4_ifLaunched_3 (c_X4_checkIndex_x G (k := 6) (by decide) (by exact f0)) my_X4_checkIndex ks_X4_43 rfl rfl (Nat.le_of_ble_eq_true rfl) (Nat.le_of_ble_eq_true rfl) (Nat.le_of_ble_eq_true rfl) (Nat.le_of_ble_eq_true rfl) (Nat.le_of_ble_eq_true rfl) hX (Nat.le_of_ble_eq_true rfl) (Nat.le_of_ble_eq_true rfl) (fun n2 hn => ⟨rfl, rfl, hn⟩)

set_option maxRecDepth 100000 in
set_option maxHeartbeats 4000000 in
theorem c_X4_ifLaunched_x2 {l : Launch} {D : va_G} {base : Nat} (G : l.stackTraces = false) {h : zH} {n : Nat} {a : Nat} {β τ : zB} {rf : Nat → Option Nat} {φ : Nat → Int32} {c π : zB} {sn : Option Nat} {o s : Int32} {u w : Int32} (f0 : ¬ (inV u 0 6) = 0) (f1 : (inV w 0 3) = 0) :
    zCt l D base 8 yX4_ifLaunched w_X4_ifLaunched [.ref a, .int u, .int w] (zTo h a β τ o s rf φ c π sn) n 1 6 (zTX "java/lang/IllegalArgumentException" (zTo h a β τ o s rf φ c π sn) n) := by
  refine zCt.of G (by decide) (Nat.le_of_ble_eq_true rfl) (fun Sx V X hV hE hX => ?_)
  show V 0 [(0, .ref a), (1, .int u), (2, .int w)] [] (zTo h a β τ o s rf φ c π sn) n 0 0
  refine hV.iload_n 1 dX4_ifLaunched_0 rfl ?_
  refine hV.bipush (v := 7) dX4_ifLaunched_1 (by decide) ?_
  refine hV.callS1 (rest := []) dX4_ifLaunched_3 (c_X4_checkIndex_o G (k := 6) (by decide) (by exact f0)) my_X4_checkIndex ks_X4_43 rfl rfl (Nat.le_of_ble_eq_true rfl) (Nat.le_of_ble_eq_true rfl) (Nat.le_of_ble_eq_true rfl) (Nat.le_of_ble_eq_true rfl) (Nat.le_of_ble_eq_true rfl) (st2 := []) (k2 := 0) (g2 := 0) rfl rfl rfl ?_
  refine hV.iload_n 2 dX4_ifLaunched_6 rfl ?_
  refine hV.iconst (v := 0) dX4_ifLaunched_7 (by decide) ?_
  refine hV.iconst (v := 3) dX4_ifLaunched_8 (by decide) ?_
  exact hV.callSx (rest := []) dX4_ifLaunched_9 (c_X4_checkValue_x G (by exact f1)) my_X4_checkValue ks_X4_47 rfl rfl (Nat.le_of_ble_eq_true rfl) (Nat.le_of_ble_eq_true rfl) (Nat.le_of_ble_eq_true rfl) (Nat.le_of_ble_eq_true rfl) (Nat.le_of_ble_eq_true rfl) hX (Nat.le_of_ble_eq_true rfl) (Nat.le_of_ble_eq_true rfl) (fun n2 hn => ⟨rfl, rfl, hn⟩)

set_option maxRecDepth 100000 in
set_option maxHeartbeats 4000000 in
theorem c_X4_ifLaunched {l : Launch} {D : va_G} {base : Nat} (G : l.stackTraces = false) {h : zH} {n : Nat} {a : Nat} {β τ : zB} {rf : Nat → Option Nat} {φ : Nat → Int32} {c π : zB} {sn : Option Nat} {o s : Int32} (hp : pinOk (β 1)) {c1 w : Nat} (hc : c1 < 7) (hw : w < 4) :
    zCt l D base 8 yX4_ifLaunched w_X4_ifLaunched [.ref a, .int (nI c1), .int (nI w)] (zTo h a β τ o s rf φ c π sn) n 0 0 (zR (some (.int (tdV (lchB (cpB τ β) c1) β w))) (zTo h a β (lchB (cpB τ β) c1) o s rf φ c π sn) (n)) := by
  refine zCt.of G (by decide) (Nat.le_of_ble_eq_true rfl) (fun Sx V X hV hE hX => ?_)
  show V 0 [(0, .ref a), (1, .int (nI c1)), (2, .int (nI w))] [] (zTo h a β τ o s rf φ c π sn) n 0 0
  have f0 : ¬ (inV (nI c1) 0 6) = 0 := (inV_T (inV_c6 hc))
  have f1 : ¬ (inV (nI w) 0 3) = 0 := (inV_T (inV_N (lo := 0) (hi := 3) (by omega) (by omega) (by decide)))
  refine hV.iload_n 1 dX4_ifLaunched_0 rfl ?_
  refine hV.bipush (v := 7) dX4_ifLaunched_1 (by decide) ?_
  refine hV.callS1 (rest := []) dX4_ifLaunched_3 (c_X4_checkIndex_o G (k := 6) (by decide) (by exact f0)) my_X4_checkIndex ks_X4_43 rfl rfl (Nat.le_of_ble_eq_true rfl) (Nat.le_of_ble_eq_true rfl) (Nat.le_of_ble_eq_true rfl) (Nat.le_of_ble_eq_true rfl) (Nat.le_of_ble_eq_true rfl) (st2 := []) (k2 := 0) (g2 := 0) rfl rfl rfl ?_
  refine hV.iload_n 2 dX4_ifLaunched_6 rfl ?_
  refine hV.iconst (v := 0) dX4_ifLaunched_7 (by decide) ?_
  refine hV.iconst (v := 3) dX4_ifLaunched_8 (by decide) ?_
  refine hV.callS1 (rest := []) dX4_ifLaunched_9 (c_X4_checkValue G (by exact f1)) my_X4_checkValue ks_X4_47 rfl rfl (Nat.le_of_ble_eq_true rfl) (Nat.le_of_ble_eq_true rfl) (Nat.le_of_ble_eq_true rfl) (Nat.le_of_ble_eq_true rfl) (Nat.le_of_ble_eq_true rfl) (st2 := []) (k2 := 0) (g2 := 0) rfl rfl rfl ?_
  refine hV.aload_n 0 dX4_ifLaunched_12 rfl ?_
  refine hV.iload_n 1 dX4_ifLaunched_13 rfl ?_
  refine hV.callV1 (rest := []) dX4_ifLaunched_14 (c_X4_tryLaunch G hp (c1 := c1) (by omega)) my_X4_tryLaunch kv_X4_163 To_o rfl rfl rfl (Nat.le_of_ble_eq_true rfl) (Nat.le_of_ble_eq_true rfl) (Nat.le_of_ble_eq_true rfl) (Nat.le_of_ble_eq_true rfl) (Nat.le_of_ble_eq_true rfl) (st2 := []) (k2 := 0) (g2 := 0) rfl rfl rfl ?_
  refine hV.aload_n 0 dX4_ifLaunched_17 rfl ?_
  refine hV.iload_n 2 dX4_ifLaunched_18 rfl ?_
  refine hV.callV1 (rest := []) dX4_ifLaunched_19 (c_X4_tellTried G (w := w) (by omega)) my_X4_tellTried kv_X4_166 To_o rfl rfl rfl (Nat.le_of_ble_eq_true rfl) (Nat.le_of_ble_eq_true rfl) (Nat.le_of_ble_eq_true rfl) (Nat.le_of_ble_eq_true rfl) (Nat.le_of_ble_eq_true rfl) (st2 := [.int (tdV (lchB (cpB τ β) c1) β w)]) (k2 := 0) (g2 := 0) rfl rfl rfl ?_
  exact hE.1 dX4_ifLaunched_22 rfl rfl (by decide) (by decide) (zRi rfl rfl rfl)

