/-! The face: undo, keep, restore -/
/-- what a keep brings -/
def zKp (a : Nat) (h : zH) (rf : Nat → Option Nat) (ρ : Nat → zB) (β : zB) (h2 : zH) (q2 n2 : Nat) : Prop := (∀ q, q < a + 35 → h2 q = h q) ∧ ∃ α, zExt a n2 h2 rf (some q2) ρ (cpB α β)
theorem zKp_x {a n : Nat} {h : zH} {rf : Nat → Option Nat} {ρ : Nat → zB} {κ β : zB} (hx : zExt a n h rf none ρ κ) : zKp a h rf ρ β (setB h n (cpB bd0 β)) n (n + 11) := by
  obtain ⟨h1, h2, h3, h4⟩ := hx
  refine ⟨fun q hq => zobj_out (by omega), bd0, by omega, fun j q hj hq => ?_, h3, fun q hq => ?_⟩
  · obtain ⟨i1, i2, i3⟩ := h2 j q hj hq
    exact ⟨i1, by omega, i3.kept (fun p p1 p2 => zobj_out (by omega))⟩
  · cases hq
    refine ⟨h1, Nat.le_refl _, zobjAt.mk, fun j r hj hr => ?_⟩
    have := h2 j r hj hr
    omega
theorem zKp_q {a n q : Nat} {h : zH} {rf : Nat → Option Nat} {ρ : Nat → zB} {κ β : zB} (hx : zExt a n h rf (some q) ρ κ) : zKp a h rf ρ β (setB h q (cpB κ β)) q n := by
  obtain ⟨h1, h2, h3, h4⟩ := hx
  obtain ⟨k1, k2, k3, k4⟩ := h4 q rfl
  refine ⟨fun q hq => zobj_out (by omega), κ, h1, fun j r hj hr => ?_, h3, fun r hr => ?_⟩
  · obtain ⟨i1, i2, i3⟩ := h2 j r hj hr
    have := k4 j r hj hr
    exact ⟨i1, i2, i3.kept (fun p p1 p2 => zobj_out (by omega))⟩
  · cases hr
    exact ⟨k1, k2, zobjAt.mk, k4⟩

set_option maxRecDepth 100000 in
set_option maxHeartbeats 1000000 in
theorem c_X1_takeLatest_x {l : Launch} {D : va_G} {base : Nat} (G : l.stackTraces = false) {h : zH} {n : Nat} {a : Nat} {β τ : zB} {rf : Nat → Option Nat} {φ : Nat → Int32} {c π : zB} {sn : Option Nat} {u v : Nat} (hu : u < 6) (hv : v ≤ 6) (hv0 : v = 0) :
    zCt l D base 3 yX1_takeLatest w_X1_takeLatest [.ref (a + 23), .ref (a + 1)] (zTo h a β τ (nI u) (nI v) rf φ c π sn) n 0 0 (zR (some (.int 0)) (zTo h a β τ (nI u) (nI v) rf φ c π sn) (n)) := by
  refine zCt.of G (by decide) (Nat.le_of_ble_eq_true rfl) (fun Sx V X hV hE hX => ?_)
  show V 0 [(0, .ref (a + 23)), (1, .ref (a + 1))] [] (zTo h a β τ (nI u) (nI v) rf φ c π sn) n 0 0
  refine hV.aload_n 0 dX1_takeLatest_0 rfl ?_
  refine hV.getf (v := .int (nI v)) dX1_takeLatest_1 fl_X1_21 To_h rfl ?_
  refine hV.if_ne_f (tgt := 9) dX1_takeLatest_4 (by decide) ((nI_eq (a := v) (b := 0) (by omega) (by omega)).mpr hv0) ?_
  refine hV.iconst (v := 0) dX1_takeLatest_7 (by decide) ?_
  exact hE.1 dX1_takeLatest_8 rfl rfl (by decide) (by decide) (zRi rfl rfl rfl)

set_option maxRecDepth 100000 in
set_option maxHeartbeats 1000000 in
theorem c_X1_takeLatest {l : Launch} {D : va_G} {base : Nat} (G : l.stackTraces = false) {h : zH} {n : Nat} {a : Nat} {β τ : zB} {rf : Nat → Option Nat} {φ : Nat → Int32} {c π : zB} {sn : Option Nat} {u v : Nat} (hu : u < 6) (hv : v ≤ 6) (hv0 : ¬ v = 0) {q : Nat} {x : zB} (hj : rf ((u + v - 1) % 6) = some q) (hq1 : a + 30 < q) (hq : zobjAt (0, fsB q) 10 lnB x q h) :
    zCt l D base 3 yX1_takeLatest w_X1_takeLatest [.ref (a + 23), .ref (a + 1)] (zTo h a β τ (nI u) (nI v) rf φ c π sn) n 0 0 (zR (some (.int 1)) (zTo h a (cpB β x) τ (nI u) (nI (v - 1)) rf φ c π sn) (n)) := by
  refine zCt.of G (by decide) (Nat.le_of_ble_eq_true rfl) (fun Sx V X hV hE hX => ?_)
  show V 0 [(0, .ref (a + 23)), (1, .ref (a + 1))] [] (zTo h a β τ (nI u) (nI v) rf φ c π sn) n 0 0
  have hm := Nat.mod_lt (u + v - 1) (show 0 < 6 by decide)
  refine hV.aload_n 0 dX1_takeLatest_0 rfl ?_
  refine hV.getf (v := .int (nI v)) dX1_takeLatest_1 fl_X1_21 To_h rfl ?_
  refine hV.if_ne_t (tgt := 9) dX1_takeLatest_4 (by decide) (fun q => absurd ((nI_eq (a := v) (b := 0) (by omega) (by omega)).mp q) hv0) ?_
  refine hV.aload_n 0 dX1_takeLatest_9 rfl ?_
  refine hV.getf (v := .ref (a + 24)) dX1_takeLatest_10 fl_X1_11 To_h rfl ?_
  refine hV.aload_n 0 dX1_takeLatest_13 rfl ?_
  refine hV.getf (v := .int (nI u)) dX1_takeLatest_14 fl_X1_17 To_h rfl ?_
  refine hV.aload_n 0 dX1_takeLatest_17 rfl ?_
  refine hV.getf (v := .int (nI v)) dX1_takeLatest_18 fl_X1_21 To_h rfl ?_
  refine hV.iaddN (a := u) (b := v) dX1_takeLatest_21 ?_
  refine hV.iconst (v := 1) dX1_takeLatest_22 (by decide) ?_
  refine hV.isubN (a := u + v) (b := 1) dX1_takeLatest_23 (by omega) ?_
  refine hV.bipush (v := 6) dX1_takeLatest_24 (by decide) ?_
  refine hV.irem dX1_takeLatest_26 (by decide) ?_
  refine zTop (v := nI ((u + v - 1) % 6)) (nI_mod (by omega) 6 (by decide)) ?_
  refine hV.aald (j := (u + v - 1) % 6) dX1_takeLatest_27 To_r (zix_nI (by omega)) (by omega) ?_
  rw [hj]
  show V 28 [(0, .ref (a + 23)), (1, .ref (a + 1))] [.ref q] (zTo h a β τ (nI u) (nI v) rf φ c π sn) n 0 0
  refine hV.astore_n (ls2 := [(2, .ref q), (0, .ref (a + 23)), (1, .ref (a + 1))]) dX1_takeLatest_28 (by decide) rfl ?_
  refine hV.aload_n 0 dX1_takeLatest_29 rfl ?_
  refine hV.ifnonnull (tgt := 35) dX1_takeLatest_30 (by decide) ?_
  refine hV.aload_n 2 dX1_takeLatest_35 rfl ?_
  refine hV.aload_n 0 dX1_takeLatest_36 rfl ?_
  refine zHeap (h2 := setB (setB (zTo h a β τ (nI u) (nI v) rf φ c π sn) q x) (a + 1) β) ((To_B.set.symm).trans (congrArg (fun w => setB w (a + 1) β) (To_xa hq (by omega)).set.symm)) ?_
  refine hV.callV1 (rest := []) dX1_takeLatest_37 (c_X0_copyFrom G (by omega)) my_X0_copyFrom kv_X1_25 B_o rfl rfl rfl (Nat.le_of_ble_eq_true rfl) (Nat.le_of_ble_eq_true rfl) (Nat.le_of_ble_eq_true rfl) (Nat.le_of_ble_eq_true rfl) (Nat.le_of_ble_eq_true rfl) (st2 := []) (k2 := 0) (g2 := 0) rfl rfl rfl ?_
  refine zHeap (h2 := zTo h a (cpB β x) τ (nI u) (nI v) rf φ c π sn) ((congrArg (fun w => setB w (a + 1) (cpB β x)) (To_xa hq (by omega)).set).trans To_B') ?_
  refine hV.aload_n 1 dX1_takeLatest_40 rfl ?_
  refine hV.dup dX1_takeLatest_41 rfl ?_
  refine hV.getf (v := .int (nI v)) dX1_takeLatest_42 fl_X1_21 To_h rfl ?_
  refine hV.iconst (v := 1) dX1_takeLatest_45 (by decide) ?_
  refine hV.isubN (a := v) (b := 1) dX1_takeLatest_46 (by omega) ?_
  refine hV.putf dX1_takeLatest_47 fp_X1_21 To_h (Nat.le_of_ble_eq_true rfl) rfl rfl To_ph ?_
  refine hV.iconst (v := 1) dX1_takeLatest_50 (by decide) ?_
  exact hE.1 dX1_takeLatest_51 rfl rfl (by decide) (by decide) (zRi rfl rfl rfl)

set_option maxRecDepth 100000 in
set_option maxHeartbeats 1000000 in
theorem c_X4_undo_x {l : Launch} {D : va_G} {base : Nat} (G : l.stackTraces = false) {h : zH} {n : Nat} {a : Nat} {β τ : zB} {rf : Nat → Option Nat} {φ : Nat → Int32} {c π : zB} {sn : Option Nat} {u v : Nat} (hu : u < 6) (hv : v ≤ 6) (hv0 : v = 0) :
    zCt l D base 8 yX4_undo w_X4_undo [.ref a] (zTo h a β τ (nI u) (nI v) rf φ c π sn) n 1 6 (zTX "java/lang/IllegalStateException" (zTo h a β τ (nI u) (nI v) rf φ c π sn) n) := by
  refine zCt.of G (by decide) (Nat.le_of_ble_eq_true rfl) (fun Sx V X hV hE hX => ?_)
  show V 0 [(0, .ref a)] [] (zTo h a β τ (nI u) (nI v) rf φ c π sn) n 0 0
  refine hV.aload_n 0 dX4_undo_0 rfl ?_
  refine hV.getf (v := .ref (a + 23)) dX4_undo_1 fl_X4_22 To_o rfl ?_
  refine hV.aload_n 0 dX4_undo_4 rfl ?_
  refine hV.getf (v := .ref (a + 1)) dX4_undo_5 fl_X4_12 To_o rfl ?_
  refine hV.callV1 (rest := []) dX4_undo_8 (c_X1_takeLatest_x G hu hv hv0) my_X1_takeLatest kv_X4_121 To_h rfl rfl rfl (Nat.le_of_ble_eq_true rfl) (Nat.le_of_ble_eq_true rfl) (Nat.le_of_ble_eq_true rfl) (Nat.le_of_ble_eq_true rfl) (Nat.le_of_ble_eq_true rfl) (st2 := [.int 0]) (k2 := 0) (g2 := 0) rfl rfl rfl ?_
  refine hV.if_ne_f (tgt := 24) dX4_undo_11 (by decide) (by decide) ?_
  exact hX.1 rfl th_125 dX4_undo_14 dX4_undo_17 dX4_undo_18 dX4_undo_20 dX4_undo_23 (Nat.le_of_ble_eq_true rfl) (Nat.le_of_ble_eq_true rfl) (by decide) (Nat.le_of_ble_eq_true rfl) (Nat.le_of_ble_eq_true rfl) (Nat.le_of_ble_eq_true rfl) (Nat.le_of_ble_eq_true rfl) (fun n2 hn => ⟨rfl, rfl, hn⟩)

set_option maxRecDepth 100000 in
set_option maxHeartbeats 1000000 in
theorem c_X4_undo {l : Launch} {D : va_G} {base : Nat} (G : l.stackTraces = false) {h : zH} {n : Nat} {a : Nat} {β τ : zB} {rf : Nat → Option Nat} {φ : Nat → Int32} {c π : zB} {sn : Option Nat} {u v : Nat} (hu : u < 6) (hv : v ≤ 6) (hv0 : ¬ v = 0) {q : Nat} {x : zB} (hj : rf ((u + v - 1) % 6) = some q) (hq1 : a + 30 < q) (hq : zobjAt (0, fsB q) 10 lnB x q h) :
    zCt l D base 8 yX4_undo w_X4_undo [.ref a] (zTo h a β τ (nI u) (nI v) rf φ c π sn) n 0 0 (zR (some (.int (nI (v - 1)))) (zTo h a (cpB β x) τ (nI u) (nI (v - 1)) rf φ c π sn) (n)) := by
  refine zCt.of G (by decide) (Nat.le_of_ble_eq_true rfl) (fun Sx V X hV hE hX => ?_)
  show V 0 [(0, .ref a)] [] (zTo h a β τ (nI u) (nI v) rf φ c π sn) n 0 0
  refine hV.aload_n 0 dX4_undo_0 rfl ?_
  refine hV.getf (v := .ref (a + 23)) dX4_undo_1 fl_X4_22 To_o rfl ?_
  refine hV.aload_n 0 dX4_undo_4 rfl ?_
  refine hV.getf (v := .ref (a + 1)) dX4_undo_5 fl_X4_12 To_o rfl ?_
  refine hV.callV1 (rest := []) dX4_undo_8 (c_X1_takeLatest G hu hv hv0 hj hq1 hq) my_X1_takeLatest kv_X4_121 To_h rfl rfl rfl (Nat.le_of_ble_eq_true rfl) (Nat.le_of_ble_eq_true rfl) (Nat.le_of_ble_eq_true rfl) (Nat.le_of_ble_eq_true rfl) (Nat.le_of_ble_eq_true rfl) (st2 := [.int 1]) (k2 := 0) (g2 := 0) rfl rfl rfl ?_
  refine hV.if_ne_t (tgt := 24) dX4_undo_11 (by decide) (by decide) ?_
  refine hV.aload_n 0 dX4_undo_24 rfl ?_
  refine hV.getf (v := .ref (a + 23)) dX4_undo_25 fl_X4_22 To_o rfl ?_
  refine hV.getf (v := .int (nI (v - 1))) dX4_undo_28 fl_X4_127 To_h rfl ?_
  exact hE.1 dX4_undo_31 rfl rfl (by decide) (by decide) (zRi rfl rfl rfl)

set_option maxRecDepth 100000 in
set_option maxHeartbeats 1000000 in
theorem c_X4_restore_x {l : Launch} {D : va_G} {base : Nat} (G : l.stackTraces = false) {h : zH} {n : Nat} {a : Nat} {β τ : zB} {rf : Nat → Option Nat} {φ : Nat → Int32} {c π : zB} {sn : Option Nat} {o s : Int32} :
    zCt l D base 8 yX4_restore w_X4_restore [.ref a] (zTo h a β τ o s rf φ c π none) n 1 6 (zTX "java/lang/IllegalStateException" (zTo h a β τ o s rf φ c π none) n) := by
  refine zCt.of G (by decide) (Nat.le_of_ble_eq_true rfl) (fun Sx V X hV hE hX => ?_)
  show V 0 [(0, .ref a)] [] (zTo h a β τ o s rf φ c π none) n 0 0
  refine hV.aload_n 0 dX4_restore_0 rfl ?_
  refine hV.getf (v := .null) dX4_restore_1 fl_X4_40 To_o rfl ?_
  refine hV.ifnonnullN dX4_restore_4 ?_
  exact hX.1 rfl th_133 dX4_restore_7 dX4_restore_10 dX4_restore_11 dX4_restore_13 dX4_restore_16 (Nat.le_of_ble_eq_true rfl) (Nat.le_of_ble_eq_true rfl) (by decide) (Nat.le_of_ble_eq_true rfl) (Nat.le_of_ble_eq_true rfl) (Nat.le_of_ble_eq_true rfl) (Nat.le_of_ble_eq_true rfl) (fun n2 hn => ⟨rfl, rfl, hn⟩)

set_option maxRecDepth 100000 in
set_option maxHeartbeats 1000000 in
theorem c_X4_restore {l : Launch} {D : va_G} {base : Nat} (G : l.stackTraces = false) {h : zH} {n : Nat} {a : Nat} {β τ : zB} {rf : Nat → Option Nat} {φ : Nat → Int32} {c π : zB} {sn : Option Nat} {ρ : Nat → zB} {κ : zB} {u v : Nat} (hu : u < 6) (hv : v ≤ 6) {q : Nat} (hx : zExt a n h rf (some q) ρ κ) :
    zCt l D base 8 yX4_restore w_X4_restore [.ref a] (zTo h a β τ (nI u) (nI v) rf φ c π (some q)) n 11 235 (zRT (some (.int (cpB β κ 0 0))) (fun h' n' => ∃ h2 rf2, h' = zTo h2 a (cpB β κ) τ (if v < 6 then nI u else nI ((u + 1) % 6)) (if v < 6 then nI (v + 1) else nI v) rf2 φ c π (some q) ∧ zSv a n h rf (some q) ρ κ ((u + v) % 6) β h2 rf2 n')) := by
  refine zCt.of G (by decide) (Nat.le_of_ble_eq_true rfl) (fun Sx V X hV hE hX => ?_)
  show V 0 [(0, .ref a)] [] (zTo h a β τ (nI u) (nI v) rf φ c π (some q)) n 0 0
  refine hV.aload_n 0 dX4_restore_0 rfl ?_
  refine hV.getf (v := .ref q) dX4_restore_1 fl_X4_40 To_o rfl ?_
  refine hV.ifnonnull (tgt := 17) dX4_restore_4 (by decide) ?_
  refine hV.aload_n 0 dX4_restore_17 rfl ?_
  refine hV.getf (v := .ref (a + 23)) dX4_restore_18 fl_X4_22 To_o rfl ?_
  refine hV.aload_n 0 dX4_restore_21 rfl ?_
  refine hV.getf (v := .ref (a + 1)) dX4_restore_22 fl_X4_12 To_o rfl ?_
  refine hV.callV3 (rest := []) dX4_restore_25 (c_X1_save G hu hv hx) my_X1_save kv_X4_51 To_h rfl rfl rfl (Nat.le_of_ble_eq_true rfl) (Nat.le_of_ble_eq_true rfl) (Nat.le_of_ble_eq_true rfl) (Nat.le_of_ble_eq_true rfl) (Nat.le_of_ble_eq_true rfl) (st2 := []) (k2 := 11) (g2 := 235) rfl rfl rfl (fun h1 n1 hn1 hs1 => ?_)
  obtain ⟨hh1, rr1, rfl, sv1⟩ := hs1
  have sw := sv1
  obtain ⟨w1, w2, w3, α, w4⟩ := sw
  obtain ⟨k1, k2, k3, k4⟩ := w4.2.2.2 q rfl
  refine hV.aload_n 0 dX4_restore_28 rfl ?_
  refine hV.getf (v := .ref (a + 1)) dX4_restore_29 fl_X4_12 To_o rfl ?_
  refine hV.aload_n 0 dX4_restore_32 rfl ?_
  refine hV.getf (v := .ref q) dX4_restore_33 fl_X4_40 To_o rfl ?_
  refine zHeap (h2 := setB (setB (zTo hh1 a β τ (if v < 6 then nI u else nI ((u + 1) % 6)) (if v < 6 then nI (v + 1) else nI v) rr1 φ c π (some q)) q κ) (a + 1) β) ((To_B.set.symm).trans (congrArg (fun w => setB w (a + 1) β) (To_xa k3 (by omega)).set.symm)) ?_
  refine hV.callV1 (rest := []) dX4_restore_36 (c_X0_copyFrom G (by omega)) my_X0_copyFrom kv_X4_130 B_o rfl rfl rfl (Nat.le_of_ble_eq_true rfl) (Nat.le_of_ble_eq_true rfl) (Nat.le_of_ble_eq_true rfl) (Nat.le_of_ble_eq_true rfl) (Nat.le_of_ble_eq_true rfl) (st2 := []) (k2 := 11) (g2 := 235) rfl rfl rfl ?_
  refine zHeap (h2 := zTo hh1 a (cpB β κ) τ (if v < 6 then nI u else nI ((u + 1) % 6)) (if v < 6 then nI (v + 1) else nI v) rr1 φ c π (some q)) ((congrArg (fun w => setB w (a + 1) (cpB β κ)) (To_xa k3 (by omega)).set).trans To_B') ?_
  refine hV.aload_n 0 dX4_restore_39 rfl ?_
  refine hV.getf (v := .ref (a + 1)) dX4_restore_40 fl_X4_12 To_o rfl ?_
  refine hV.getf (v := .ref (a + 1 + 1)) dX4_restore_43 fl_X4_71 To_B.1 rfl ?_
  refine hV.iconst (v := 0) dX4_restore_46 (by decide) ?_
  refine hV.iald (j := 0) dX4_restore_47 (zobjAt.arr To_B 0 17 (by decide) rfl) ⟨by decide, by decide⟩ (by decide) ?_
  exact hE.1 dX4_restore_48 rfl rfl (Nat.le_of_ble_eq_true rfl) (Nat.le_of_ble_eq_true rfl) (zRTi rfl ⟨_, _, rfl, sv1⟩)

