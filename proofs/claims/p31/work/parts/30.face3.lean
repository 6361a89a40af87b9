/-! The face: chances; hashes -/
theorem rowP_0 {f : Nat → Int32} {r : Nat} {π : zB} {k : Nat} (hk : k < 7) : rowP f r π 0 k = rowX f r π k := by
  unfold rowP
  rw [sa_at]
  simp [va_cpy, hk]
theorem cbrN_ind {f : Nat → Int32} {π π2 : zB} (h : ∀ k, k < 7 → π 0 k = π2 0 k) : ∀ r k, k < 7 → cbrN f π r 0 k = cbrN f π2 r 0 k := by
  intro r
  induction r with
  | zero => exact h
  | succ r ih =>
    intro k hk
    show rowP f r (cbrN f π r) 0 k = rowP f r (cbrN f π2 r) 0 k
    rw [rowP_0 hk, rowP_0 hk]
    refine rowN_ind ih (fun k hk => ?_) 7 (by omega) k hk
    unfold filF
    rw [if_pos hk, if_pos hk]
/-- how many ways lead from a column, whatever the rows held before -/
def cv (β : zB) (c : Nat) : Nat → Int32 := cbrP (β 1) c z0 0
theorem cbr_cv {β π : zB} {c k : Nat} (hk : k < 7) : cbrP (β 1) c π 0 k = cv β c k := by
  refine cbrN_ind (fun k hk => ?_) 8 k hk
  rw [sa_at, sa_at]
  unfold va_up filF
  rw [if_pos hk, if_pos hk]
theorem gaw_ind {f : Nat → Int32} : ∀ (d c : Nat) (e e2 : Nat → Int32), c < 7 → (∀ k, k < 7 → e k = e2 k) → ∀ k, k < 7 → goF f d c e k = goF f d c e2 k := by
  intro d
  induction d with
  | zero =>
    intro c e e2 hc h k hk
    show va_up e c (e c + 1) k = va_up e2 c (e2 c + 1) k
    unfold va_up
    rw [h c hc, h k hk]
  | succ d ih =>
    intro c e e2 hc h k hk
    have b1 := bnc_lt (c := c) (s := 1) hc
    have b2 := bnc_lt (c := c) (s := -1) hc
    simp only [goF]
    split
    · split
      · exact h k hk
      · exact ih _ _ _ b2 h k hk
    · refine ih _ _ _ b1 ?_ k hk
      split
      · exact h
      · exact ih _ _ _ b2 h
/-- how many walks lead from a column -/
def gv (β : zB) (c : Nat) : Nat → Int32 := gawP (β 1) c z0 1
theorem gaw_gv {β π : zB} {c k : Nat} (hc : c < 7) (hk : k < 7) : gawP (β 1) c π 1 k = gv β c k := by
  unfold gv gawP
  rw [sa_at, sa_at]
  refine gaw_ind 8 c _ _ hc (fun k hk => ?_) k hk
  unfold filF
  rw [if_pos hk, if_pos hk]
def mpS (β : zB) (w : Nat → Int32) : Nat → Int32
  | 0 => 0
  | p + 1 => if isOpenV β p = 0 then mpS β w p else mpS β w p + w p * β 5 p
def mpV (β : zB) (w : Nat → Int32) : Int32 := if alN w 7 ≤ 0 then 0 else mpS β w 7 * 1000 / alN w 7
theorem mpS_ind {β : zB} {w w2 : Nat → Int32} (h : ∀ k, k < 7 → w k = w2 k) : ∀ p, p ≤ 7 → mpS β w p = mpS β w2 p := by
  intro p
  induction p with
  | zero => intro _; rfl
  | succ p ih => intro hp; simp only [mpS]; rw [ih (by omega), h p (by omega)]
theorem mpV_ind {β : zB} {w w2 : Nat → Int32} (h : ∀ k, k < 7 → w k = w2 k) : mpV β w = mpV β w2 := by
  unfold mpV
  rw [mpS_ind h 7 (by omega), alN_ind h 7 (by omega)]
def bcC (β : zB) : Nat → Int32 × Int32
  | 0 => (0, -1)
  | c + 1 => if mpV β (cv β c) ≤ (bcC β c).2 then bcC β c else (nI c, mpV β (cv β c))
def pbV (β : zB) : UInt64 := if β 0 2 ≤ 0 then FP.dconst0 else FP.ddiv (FP.i2d (β 0 3)) (FP.i2d (β 0 2))

set_option maxRecDepth 100000 in
set_option maxHeartbeats 1000000 in
theorem c_X4_tryUntilHeld {l : Launch} {D : va_G} {base : Nat} (G : l.stackTraces = false) {h : zH} {n : Nat} {a : Nat} {β τ : zB} {rf : Nat → Option Nat} {φ : Nat → Int32} {c π : zB} {sn : Option Nat} {o s : Int32} (hp : pinOk (β 1)) {c1 : Nat} (hc : c1 < 7) :
    zCt l D base 5 yX4_tryUntilHeld w_X4_tryUntilHeld [.ref a, .int (nI c1)] (zTo h a β τ o s rf φ c π sn) n 0 0 (zRT (some (.int (tuV β τ c1))) (fun h' n' => ∃ τ2, h' = zTo h a β τ2 o s rf φ c π sn ∧ n' = n)) := by
  refine zCt.of G (by decide) (Nat.le_of_ble_eq_true rfl) (fun Sx V X hV hE hX => ?_)
  show V 0 [(0, .ref a), (1, .int (nI c1))] [] (zTo h a β τ o s rf φ c π sn) n 0 0
  refine hV.aload_n 0 dX4_tryUntilHeld_0 rfl ?_
  refine hV.getf (v := .ref (a + 1)) dX4_tryUntilHeld_1 fl_X4_12 To_o rfl ?_
  refine zHeap (h2 := setB (zTo h a β τ o s rf φ c π sn) (a + 1) β) (To_B.set.symm) ?_
  refine hV.callV1 (rest := []) dX4_tryUntilHeld_4 (c_X0_isHeldOpen G) my_X0_isHeldOpen kv_X4_226 B_o rfl rfl rfl (Nat.le_of_ble_eq_true rfl) (Nat.le_of_ble_eq_true rfl) (Nat.le_of_ble_eq_true rfl) (Nat.le_of_ble_eq_true rfl) (Nat.le_of_ble_eq_true rfl) (st2 := [.int (b2 (0 < β 0 9))]) (k2 := 0) (g2 := 0) rfl rfl rfl ?_
  refine zHeap (h2 := zTo h a β τ o s rf φ c π sn) To_B' ?_
  by_cases c7_1 : (b2 (0 < β 0 9)) = 0
  · refine hV.if_eq_t (tgt := 12) dX4_tryUntilHeld_7 (by decide) c7_1 ?_
    refine hV.aload_n 0 dX4_tryUntilHeld_12 rfl ?_
    refine hV.getf (v := .ref (a + 12)) dX4_tryUntilHeld_13 fl_X4_16 To_o rfl ?_
    refine hV.aload_n 0 dX4_tryUntilHeld_16 rfl ?_
    refine hV.getf (v := .ref (a + 1)) dX4_tryUntilHeld_17 fl_X4_12 To_o rfl ?_
    refine zHeap (h2 := setB (setB (zTo h a β τ o s rf φ c π sn) (a + 1) β) (a + 12) τ) ((To_R.set.symm).trans (congrArg (fun w => setB w (a + 12) τ) To_B.set.symm)) ?_
    refine hV.callV1 (rest := []) dX4_tryUntilHeld_20 (c_X0_copyFrom G (by omega)) my_X0_copyFrom kv_X4_130 B_o rfl rfl rfl (Nat.le_of_ble_eq_true rfl) (Nat.le_of_ble_eq_true rfl) (Nat.le_of_ble_eq_true rfl) (Nat.le_of_ble_eq_true rfl) (Nat.le_of_ble_eq_true rfl) (st2 := []) (k2 := 0) (g2 := 0) rfl rfl rfl ?_
    refine zHeap (h2 := zTo h a β (cpB τ β) o s rf φ c π sn) ((congrArg (fun w => setB w (a + 12) (cpB τ β)) To_B.set).trans To_R') ?_
    refine hV.iconst (v := 1) dX4_tryUntilHeld_23 (by decide) ?_
    refine hV.istore_n (ls2 := [(2, .int 1), (0, .ref a), (1, .int (nI c1))]) dX4_tryUntilHeld_24 (by decide) rfl ?_
    have loop : ∀ (k m : Nat) (τ1 : zB), m + k = 201 → (tuN c1 k τ1 m = tuN c1 200 (cpB τ β) 1) → (pinOk (τ1 1)) → V 25 [(2, .int (nI m)), (0, .ref a), (1, .int (nI c1))] [] (zTo h a β τ1 o s rf φ c π sn) n 0 0 := by
      intro k
      induction k with
      | zero =>
        intro m τ1 hm he hpin
        have em : m = 201 := (by omega)
        refine hV.iload_n 0 dX4_tryUntilHeld_25 rfl ?_
        refine hV.sipush (v := 200) dX4_tryUntilHeld_26 (by decide) ?_
        refine hV.icmp_gt_t (tgt := 59) dX4_tryUntilHeld_29 (by decide) ((nI_ltI (a := 200) (b := m) (by omega) (by omega)).mpr (by omega)) ?_
        refine hV.iconst (v := (-1)) dX4_tryUntilHeld_59 (by decide) ?_
        exact hE.1 dX4_tryUntilHeld_60 rfl rfl (Nat.le_of_ble_eq_true rfl) (Nat.le_of_ble_eq_true rfl) (zRTi (by unfold tuV; rw [if_neg (b2_eq.mp c7_1), ← he]; rfl) ⟨_, rfl, rfl⟩)
      | succ k ih =>
        intro m τ1 hm he hpin
        refine hV.iload_n 0 dX4_tryUntilHeld_25 rfl ?_
        refine hV.sipush (v := 200) dX4_tryUntilHeld_26 (by decide) ?_
        refine hV.icmp_gt_f (tgt := 59) dX4_tryUntilHeld_29 (by decide) (fun q => absurd ((nI_ltI (a := 200) (b := m) (by omega) (by omega)).mp q) (by omega)) ?_
        refine hV.aload_n 1 dX4_tryUntilHeld_32 rfl ?_
        refine hV.getf (v := .ref (a + 12)) dX4_tryUntilHeld_33 fl_X4_16 To_o rfl ?_
        refine hV.iload_n 2 dX4_tryUntilHeld_36 rfl ?_
        refine zHeap (h2 := setB (zTo h a β τ1 o s rf φ c π sn) (a + 12) τ1) (To_R.set.symm) ?_
        refine hV.callV1 (rest := []) dX4_tryUntilHeld_37 (c_X0_launchBall G (c := c1) (by omega) hpin) my_X0_launchBall kv_X4_82 B_o rfl rfl rfl (Nat.le_of_ble_eq_true rfl) (Nat.le_of_ble_eq_true rfl) (Nat.le_of_ble_eq_true rfl) (Nat.le_of_ble_eq_true rfl) (Nat.le_of_ble_eq_true rfl) (st2 := [.int (lchR τ1 c1)]) (k2 := 0) (g2 := 0) rfl rfl rfl ?_
        refine zHeap (h2 := zTo h a β (lchB τ1 c1) o s rf φ c π sn) To_R' ?_
        refine hV.pop dX4_tryUntilHeld_40 rfl ?_
        refine hV.aload_n 1 dX4_tryUntilHeld_41 rfl ?_
        refine hV.getf (v := .ref (a + 12)) dX4_tryUntilHeld_42 fl_X4_16 To_o rfl ?_
        refine zHeap (h2 := setB (zTo h a β (lchB τ1 c1) o s rf φ c π sn) (a + 12) (lchB τ1 c1)) (To_R.set.symm) ?_
        refine hV.callV1 (rest := []) dX4_tryUntilHeld_45 (c_X0_isHeldOpen G) my_X0_isHeldOpen kv_X4_226 B_o rfl rfl rfl (Nat.le_of_ble_eq_true rfl) (Nat.le_of_ble_eq_true rfl) (Nat.le_of_ble_eq_true rfl) (Nat.le_of_ble_eq_true rfl) (Nat.le_of_ble_eq_true rfl) (st2 := [.int (b2 (0 < (lchB τ1 c1) 0 9))]) (k2 := 0) (g2 := 0) rfl rfl rfl ?_
        refine zHeap (h2 := zTo h a β (lchB τ1 c1) o s rf φ c π sn) To_R' ?_
        by_cases c48_2 : (b2 (0 < (lchB τ1 c1) 0 9)) = 0
        · refine hV.if_eq_t (tgt := 53) dX4_tryUntilHeld_48 (by decide) c48_2 ?_
          refine hV.iinc 0 (v := nI (m + 1)) (ls2 := [(2, .int (nI (m + 1))), (0, .ref a), (1, .int (nI c1))]) dX4_tryUntilHeld_53 rfl (nI_1 _) (by decide) rfl ?_
          refine hV.goto (tgt := 25) dX4_tryUntilHeld_56 (by decide) ?_
          exact ih (m + 1) _ (by omega) (by rw [← he]; simp only [tuN]; rw [if_neg (b2_eq.mp c48_2)]) (by rw [lchB_pin]; exact hpin)
        · refine hV.if_eq_f (tgt := 53) dX4_tryUntilHeld_48 (by decide) c48_2 ?_
          refine hV.iload_n 0 dX4_tryUntilHeld_51 rfl ?_
          exact hE.1 dX4_tryUntilHeld_52 rfl rfl (Nat.le_of_ble_eq_true rfl) (Nat.le_of_ble_eq_true rfl) (zRTi (by unfold tuV; rw [if_neg (b2_eq.mp c7_1), ← he]; simp only [tuN]; rw [if_pos (b2_ne.mp c48_2)]) ⟨_, rfl, rfl⟩)
    exact loop (201 - 1) 1 (cpB τ β) (by omega) (by rw [show 201 - 1 = 200 from rfl]) (pinOk_cp hp)
  · refine hV.if_eq_f (tgt := 12) dX4_tryUntilHeld_7 (by decide) c7_1 ?_
    refine hV.iconst (v := 0) dX4_tryUntilHeld_10 (by decide) ?_
    exact hE.1 dX4_tryUntilHeld_11 rfl rfl (Nat.le_of_ble_eq_true rfl) (Nat.le_of_ble_eq_true rfl) (zRTi (by unfold tuV; rw [if_pos (b2_ne.mp c7_1)]) ⟨_, rfl, rfl⟩)

theorem lchB_ind_tu : True := trivial
set_option maxRecDepth 100000 in
set_option maxHeartbeats 1000000 in
theorem c_X4_untilOpen_x1 {l : Launch} {D : va_G} {base : Nat} (G : l.stackTraces = false) {h : zH} {n : Nat} {a : Nat} {β τ : zB} {rf : Nat → Option Nat} {φ : Nat → Int32} {c π : zB} {sn : Option Nat} {o s : Int32} {w : Int32} (f0 : (inV w 0 6) = 0) :
    zCt l D base 8 yX4_untilOpen w_X4_untilOpen [.ref a, .int w] (zTo h a β τ o s rf φ c π sn) n 1 6 (zTX "java/lang/IndexOutOfBoundsException" (zTo h a β τ o s rf φ c π sn) n) := by
  refine zCt.of G (by decide) (Nat.le_of_ble_eq_true rfl) (fun Sx V X hV hE hX => ?_)
  show V 0 [(0, .ref a), (1, .int w)] [] (zTo h a β τ o s rf φ c π sn) n 0 0
  refine hV.iload_n 1 dX4_untilOpen_0 rfl ?_
  refine hV.bipush (v := 7) dX4_untilOpen_1 (by decide) ?_
  exact hV.callSx (rest := []) dX4_untilOpen_3 (c_X4_checkIndex_x G (k := 6) (by decide) (by exact f0)) my_X4_checkIndex ks_X4_43 rfl rfl (Nat.le_of_ble_eq_true rfl) (Nat.le_of_ble_eq_true rfl) (Nat.le_of_ble_eq_true rfl) (Nat.le_of_ble_eq_true rfl) (Nat.le_of_ble_eq_true rfl) hX (Nat.le_of_ble_eq_true rfl) (Nat.le_of_ble_eq_true rfl) (fun n2 hn => ⟨rfl, rfl, hn⟩)

set_option maxRecDepth 100000 in
set_option maxHeartbeats 1000000 in
theorem c_X4_untilOpen {l : Launch} {D : va_G} {base : Nat} (G : l.stackTraces = false) {h : zH} {n : Nat} {a : Nat} {β τ : zB} {rf : Nat → Option Nat} {φ : Nat → Int32} {c π : zB} {sn : Option Nat} {o s : Int32} (hp : pinOk (β 1)) {c1 : Nat} (hc : c1 < 7) :
    zCt l D base 8 yX4_untilOpen w_X4_untilOpen [.ref a, .int (nI c1)] (zTo h a β τ o s rf φ c π sn) n 0 0 (zRT (some (.int (tuV β τ c1))) (fun h' n' => ∃ τ2, h' = zTo h a β τ2 o s rf φ c π sn ∧ n' = n)) := by
  refine zCt.of G (by decide) (Nat.le_of_ble_eq_true rfl) (fun Sx V X hV hE hX => ?_)
  show V 0 [(0, .ref a), (1, .int (nI c1))] [] (zTo h a β τ o s rf φ c π sn) n 0 0
  have f0 : ¬ (inV (nI c1) 0 6) = 0 := (inV_T (inV_c6 hc))
  refine hV.iload_n 1 dX4_untilOpen_0 rfl ?_
  refine hV.bipush (v := 7) dX4_untilOpen_1 (by decide) ?_
  refine hV.callS1 (rest := []) dX4_untilOpen_3 (c_X4_checkIndex_o G (k := 6) (by decide) (by exact f0)) my_X4_checkIndex ks_X4_43 rfl rfl (Nat.le_of_ble_eq_true rfl) (Nat.le_of_ble_eq_true rfl) (Nat.le_of_ble_eq_true rfl) (Nat.le_of_ble_eq_true rfl) (Nat.le_of_ble_eq_true rfl) (st2 := []) (k2 := 0) (g2 := 0) rfl rfl rfl ?_
  refine hV.aload_n 0 dX4_untilOpen_6 rfl ?_
  refine hV.iload_n 1 dX4_untilOpen_7 rfl ?_
  refine hV.callV3 (rest := []) dX4_untilOpen_8 (c_X4_tryUntilHeld G hp (c1 := c1) (by omega)) my_X4_tryUntilHeld kv_X4_172 To_o rfl rfl rfl (Nat.le_of_ble_eq_true rfl) (Nat.le_of_ble_eq_true rfl) (Nat.le_of_ble_eq_true rfl) (Nat.le_of_ble_eq_true rfl) (Nat.le_of_ble_eq_true rfl) (st2 := [.int (tuV β τ c1)]) (k2 := 0) (g2 := 0) rfl rfl rfl (fun h1 n1 hn1 hs1 => ?_)
  obtain ⟨t1, rfl, rfl⟩ := hs1
  exact hE.1 dX4_untilOpen_11 rfl rfl (Nat.le_of_ble_eq_true rfl) (Nat.le_of_ble_eq_true rfl) (zRTi rfl ⟨_, rfl, rfl⟩)

set_option maxRecDepth 100000 in
set_option maxHeartbeats 1000000 in
theorem c_X4_measurePays {l : Launch} {D : va_G} {base : Nat} (G : l.stackTraces = false) {h : zH} {n : Nat} {a : Nat} {β τ : zB} {rf : Nat → Option Nat} {φ : Nat → Int32} {c π : zB} {sn : Option Nat} {o s : Int32} {c1 : Nat} (hc : c1 < 7) :
    zCt l D base 4 yX4_measurePays w_X4_measurePays [.ref a, .int (nI c1)] (zTo h a β τ o s rf φ c π sn) n 0 0 (zR (some (.int (mpV β (cv β c1)))) (zTo h a β τ o s rf φ c (cbrP (β 1) c1 π) sn) (n)) := by
  refine zCt.of G (by decide) (Nat.le_of_ble_eq_true rfl) (fun Sx V X hV hE hX => ?_)
  show V 0 [(0, .ref a), (1, .int (nI c1))] [] (zTo h a β τ o s rf φ c π sn) n 0 0
  refine hV.aload_n 0 dX4_measurePays_0 rfl ?_
  refine hV.getf (v := .ref (a + 27)) dX4_measurePays_1 fl_X4_36 To_o rfl ?_
  refine hV.aload_n 0 dX4_measurePays_4 rfl ?_
  refine hV.getf (v := .ref (a + 1)) dX4_measurePays_5 fl_X4_12 To_o rfl ?_
  refine hV.getf (v := .ref (a + 1 + 2)) dX4_measurePays_8 fl_X4_135 To_B.1 rfl ?_
  refine hV.iload_n 1 dX4_measurePays_11 rfl ?_
  refine zHeap (h2 := setP (zTo h a β τ o s rf φ c π sn) (a + 27) π) (To_P.set.symm) ?_
  refine hV.callV1 (rest := []) dX4_measurePays_12 (c_X2_countByRows G (q := a + 1 + 2) (by omega) (zobjAt.arr To_B 1 56 (by decide) rfl) (c := c1) (by omega)) my_X2_countByRows kv_X4_150 P_o rfl rfl rfl (Nat.le_of_ble_eq_true rfl) (Nat.le_of_ble_eq_true rfl) (Nat.le_of_ble_eq_true rfl) (Nat.le_of_ble_eq_true rfl) (Nat.le_of_ble_eq_true rfl) (st2 := []) (k2 := 0) (g2 := 0) rfl rfl rfl ?_
  refine zHeap (h2 := zTo h a β τ o s rf φ c (cbrP (β 1) c1 π) sn) To_P' ?_
  refine hV.iconst (v := 0) dX4_measurePays_15 (by decide) ?_
  refine hV.istore_n (ls2 := [(2, .int 0), (0, .ref a), (1, .int (nI c1))]) dX4_measurePays_16 (by decide) rfl ?_
  refine hV.iconst (v := 0) dX4_measurePays_17 (by decide) ?_
  refine hV.istore_n (ls2 := [(3, .int 0), (2, .int 0), (0, .ref a), (1, .int (nI c1))]) dX4_measurePays_18 (by decide) rfl ?_
  refine hV.iconst (v := 0) dX4_measurePays_19 (by decide) ?_
  refine hV.istore (ls2 := [(4, .int 0), (3, .int 0), (2, .int 0), (0, .ref a), (1, .int (nI c1))]) dX4_measurePays_20 (by decide) rfl ?_
  have loop : ∀ (k p : Nat) (al sm : Int32), p + k = 7 → (al = alN ((cbrP (β 1) c1 π) 0) p) → (sm = mpS β ((cbrP (β 1) c1 π) 0) p) → V 22 [(4, .int (nI p)), (3, .int sm), (2, .int al), (0, .ref a), (1, .int (nI c1))] [] (zTo h a β τ o s rf φ c (cbrP (β 1) c1 π) sn) n 0 0 := by
    intro k
    induction k with
    | zero =>
      intro p al sm hp ha hs
      have e7 : p = 7 := (by omega)
      rw [e7] at ha hs
      refine hV.iload 0 dX4_measurePays_22 rfl ?_
      refine hV.bipush (v := 7) dX4_measurePays_24 (by decide) ?_
      refine hV.icmp_ge_t (tgt := 84) dX4_measurePays_26 (by decide) ((nI_leI (a := 7) (b := p) (by omega) (by omega)).mpr (by omega)) ?_
      refine hV.iload_n 2 dX4_measurePays_84 rfl ?_
      by_cases c85_1 : al ≤ 0
      · refine hV.if_le_t (tgt := 98) dX4_measurePays_85 (by decide) c85_1 ?_
        refine hV.iconst (v := 0) dX4_measurePays_98 (by decide) ?_
        exact hE.1 dX4_measurePays_99 rfl rfl (by decide) (by decide) (zRi (by rw [← mpV_ind (w := (cbrP (β 1) c1 π) 0) (fun k hk => cbr_cv hk)]; unfold mpV; rw [← ha, ← hs, if_pos c85_1]) rfl rfl)
      · refine hV.if_le_f (tgt := 98) dX4_measurePays_85 (by decide) c85_1 ?_
        refine hV.iload_n 1 dX4_measurePays_88 rfl ?_
        refine hV.sipush (v := 1000) dX4_measurePays_89 (by decide) ?_
        refine hV.imul dX4_measurePays_92 ?_
        refine hV.iload_n 2 dX4_measurePays_93 rfl ?_
        refine hV.idiv dX4_measurePays_94 (fun e => c85_1 (by rw [e]; decide)) ?_
        refine hV.goto (tgt := 99) dX4_measurePays_95 (by decide) ?_
        exact hE.1 dX4_measurePays_99 rfl rfl (by decide) (by decide) (zRi (by rw [← mpV_ind (w := (cbrP (β 1) c1 π) 0) (fun k hk => cbr_cv hk)]; unfold mpV; rw [← ha, ← hs, if_neg c85_1]) rfl rfl)
    | succ k ih =>
      intro p al sm hp ha hs
      refine hV.iload 0 dX4_measurePays_22 rfl ?_
      refine hV.bipush (v := 7) dX4_measurePays_24 (by decide) ?_
      refine hV.icmp_ge_f (tgt := 84) dX4_measurePays_26 (by decide) (fun q => absurd ((nI_leI (a := 7) (b := p) (by omega) (by omega)).mp q) (by omega)) ?_
      refine hV.iload_n 2 dX4_measurePays_29 rfl ?_
      refine hV.aload_n 3 dX4_measurePays_30 rfl ?_
      refine hV.getf (v := .ref (a + 27)) dX4_measurePays_31 fl_X4_36 To_o rfl ?_
      refine hV.getf (v := .ref (a + 27 + 1)) dX4_measurePays_34 fl_X4_154 To_P.1 rfl ?_
      refine hV.iload 0 dX4_measurePays_37 rfl ?_
      refine hV.iald (j := p) dX4_measurePays_39 (zobjAt.arr To_P 0 7 (by decide) rfl) (zix_nI (by omega)) (by omega) ?_
      refine hV.iadd dX4_measurePays_40 ?_
      refine hV.istore_n (ls2 := [(2, .int (al + ((cbrP (β 1) c1 π) 0 p))), (4, .int (nI p)), (3, .int sm), (0, .ref a), (1, .int (nI c1))]) dX4_measurePays_41 (by decide) rfl ?_
      refine hV.aload_n 3 dX4_measurePays_42 rfl ?_
      refine hV.getf (v := .ref (a + 1)) dX4_measurePays_43 fl_X4_12 To_o rfl ?_
      refine hV.iload 1 dX4_measurePays_46 rfl ?_
      refine zHeap (h2 := setB (zTo h a β τ o s rf φ c (cbrP (β 1) c1 π) sn) (a + 1) β) (To_B.set.symm) ?_
      refine hV.callV1 (rest := []) dX4_measurePays_48 (c_X0_isOpen G (p := p) (by omega)) my_X0_isOpen kv_X4_229 B_o rfl rfl rfl (Nat.le_of_ble_eq_true rfl) (Nat.le_of_ble_eq_true rfl) (Nat.le_of_ble_eq_true rfl) (Nat.le_of_ble_eq_true rfl) (Nat.le_of_ble_eq_true rfl) (st2 := [.int (isOpenV β p)]) (k2 := 0) (g2 := 0) rfl rfl rfl ?_
      refine zHeap (h2 := zTo h a β τ o s rf φ c (cbrP (β 1) c1 π) sn) To_B' ?_
      by_cases c51_2 : (isOpenV β p) = 0
      · refine hV.if_eq_t (tgt := 78) dX4_measurePays_51 (by decide) c51_2 ?_
        refine hV.iinc 1 (v := nI (p + 1)) (ls2 := [(4, .int (nI (p + 1))), (2, .int (al + ((cbrP (β 1) c1 π) 0 p))), (3, .int sm), (0, .ref a), (1, .int (nI c1))]) dX4_measurePays_78 rfl (nI_1 _) (by decide) rfl ?_
        refine hV.goto (tgt := 22) dX4_measurePays_81 (by decide) ?_
        refine hV.pick [0, 2, 1, 3, 4] (ls2 := [(4, .int (nI (p + 1))), (3, .int sm), (2, .int (al + ((cbrP (β 1) c1 π) 0 p))), (0, .ref a), (1, .int (nI c1))]) rfl ?_
        exact ih (p + 1) _ _ (by omega) (by rw [ha]; rfl) (by rw [hs]; simp only [mpS]; rw [if_pos c51_2])
      · refine hV.if_eq_f (tgt := 78) dX4_measurePays_51 (by decide) c51_2 ?_
        refine hV.iload_n 2 dX4_measurePays_54 rfl ?_
        refine hV.aload_n 3 dX4_measurePays_55 rfl ?_
        refine hV.getf (v := .ref (a + 27)) dX4_measurePays_56 fl_X4_36 To_o rfl ?_
        refine hV.getf (v := .ref (a + 27 + 1)) dX4_measurePays_59 fl_X4_154 To_P.1 rfl ?_
        refine hV.iload 1 dX4_measurePays_62 rfl ?_
        refine hV.iald (j := p) dX4_measurePays_64 (zobjAt.arr To_P 0 7 (by decide) rfl) (zix_nI (by omega)) (by omega) ?_
        refine hV.aload_n 3 dX4_measurePays_65 rfl ?_
        refine hV.getf (v := .ref (a + 1)) dX4_measurePays_66 fl_X4_12 To_o rfl ?_
        refine hV.getf (v := .ref (a + 1 + 6)) dX4_measurePays_69 fl_X4_232 To_B.1 rfl ?_
        refine hV.iload 1 dX4_measurePays_72 rfl ?_
        refine hV.iald (j := p) dX4_measurePays_74 (zobjAt.arr To_B 5 7 (by decide) rfl) (zix_nI (by omega)) (by omega) ?_
        refine hV.imul dX4_measurePays_75 ?_
        refine hV.iadd dX4_measurePays_76 ?_
        refine hV.istore_n (ls2 := [(3, .int (sm + (((cbrP (β 1) c1 π) 0 p) * (β 5 p)))), (2, .int (al + ((cbrP (β 1) c1 π) 0 p))), (4, .int (nI p)), (0, .ref a), (1, .int (nI c1))]) dX4_measurePays_77 (by decide) rfl ?_
        refine hV.iinc 2 (v := nI (p + 1)) (ls2 := [(4, .int (nI (p + 1))), (3, .int (sm + (((cbrP (β 1) c1 π) 0 p) * (β 5 p)))), (2, .int (al + ((cbrP (β 1) c1 π) 0 p))), (0, .ref a), (1, .int (nI c1))]) dX4_measurePays_78 rfl (nI_1 _) (by decide) rfl ?_
        refine hV.goto (tgt := 22) dX4_measurePays_81 (by decide) ?_
        exact ih (p + 1) _ _ (by omega) (by rw [ha]; rfl) (by rw [hs]; simp only [mpS]; rw [if_neg c51_2])
  exact loop (7) 0 _ _ (by omega) rfl rfl

set_option maxRecDepth 100000 in
set_option maxHeartbeats 1000000 in
theorem c_X4_bestColumn {l : Launch} {D : va_G} {base : Nat} (G : l.stackTraces = false) {h : zH} {n : Nat} {a : Nat} {β τ : zB} {rf : Nat → Option Nat} {φ : Nat → Int32} {c π : zB} {sn : Option Nat} {o s : Int32} :
    zCt l D base 5 yX4_bestColumn w_X4_bestColumn [.ref a] (zTo h a β τ o s rf φ c π sn) n 0 0 (zRT (some (.int ((bcC β 7).1))) (fun h' n' => ∃ π2, h' = zTo h a β τ o s rf φ c π2 sn ∧ n' = n)) := by
  refine zCt.of G (by decide) (Nat.le_of_ble_eq_true rfl) (fun Sx V X hV hE hX => ?_)
  show V 0 [(0, .ref a)] [] (zTo h a β τ o s rf φ c π sn) n 0 0
  refine hV.iconst (v := 0) dX4_bestColumn_0 (by decide) ?_
  refine hV.istore_n (ls2 := [(1, .int 0), (0, .ref a)]) dX4_bestColumn_1 (by decide) rfl ?_
  refine hV.iconst (v := (-1)) dX4_bestColumn_2 (by decide) ?_
  refine hV.istore_n (ls2 := [(2, .int (-1)), (1, .int 0), (0, .ref a)]) dX4_bestColumn_3 (by decide) rfl ?_
  refine hV.iconst (v := 0) dX4_bestColumn_4 (by decide) ?_
  refine hV.istore_n (ls2 := [(3, .int 0), (2, .int (-1)), (1, .int 0), (0, .ref a)]) dX4_bestColumn_5 (by decide) rfl ?_
  have loop : ∀ (k j : Nat) (best most : Int32) (π1 : zB), j + k = 7 → ((best, most) = bcC β j) → V 6 [(3, .int (nI j)), (2, .int most), (1, .int best), (0, .ref a)] [] (zTo h a β τ o s rf φ c π1 sn) n 0 0 := by
    intro k
    induction k with
    | zero =>
      intro j best most π1 hj hb
      have e7 : j = 7 := (by omega)
      rw [e7] at hb
      refine hV.iload_n 0 dX4_bestColumn_6 rfl ?_
      refine hV.bipush (v := 7) dX4_bestColumn_7 (by decide) ?_
      refine hV.icmp_ge_t (tgt := 36) dX4_bestColumn_9 (by decide) ((nI_leI (a := 7) (b := j) (by omega) (by omega)).mpr (by omega)) ?_
      refine hV.iload_n 2 dX4_bestColumn_36 rfl ?_
      exact hE.1 dX4_bestColumn_37 rfl rfl (Nat.le_of_ble_eq_true rfl) (Nat.le_of_ble_eq_true rfl) (zRTi (by rw [← hb]) ⟨_, rfl, rfl⟩)
    | succ k ih =>
      intro j best most π1 hj hb
      refine hV.iload_n 0 dX4_bestColumn_6 rfl ?_
      refine hV.bipush (v := 7) dX4_bestColumn_7 (by decide) ?_
      refine hV.icmp_ge_f (tgt := 36) dX4_bestColumn_9 (by decide) (fun q => absurd ((nI_leI (a := 7) (b := j) (by omega) (by omega)).mp q) (by omega)) ?_
      refine hV.aload_n 3 dX4_bestColumn_12 rfl ?_
      refine hV.iload_n 0 dX4_bestColumn_13 rfl ?_
      refine hV.callV1 (rest := []) dX4_bestColumn_14 (c_X4_measurePays G (c1 := j) (by omega)) my_X4_measurePays kv_X4_169 To_o rfl rfl rfl (Nat.le_of_ble_eq_true rfl) (Nat.le_of_ble_eq_true rfl) (Nat.le_of_ble_eq_true rfl) (Nat.le_of_ble_eq_true rfl) (Nat.le_of_ble_eq_true rfl) (st2 := [.int (mpV β (cv β j))]) (k2 := 0) (g2 := 0) rfl rfl rfl ?_
      refine hV.istore (ls2 := [(4, .int (mpV β (cv β j))), (3, .int (nI j)), (2, .int most), (1, .int best), (0, .ref a)]) dX4_bestColumn_17 (by decide) rfl ?_
      refine hV.iload 0 dX4_bestColumn_19 rfl ?_
      refine hV.iload_n 2 dX4_bestColumn_21 rfl ?_
      by_cases c22_1 : (mpV β (cv β j)) ≤ most
      · refine hV.icmp_le_t (tgt := 30) dX4_bestColumn_22 (by decide) c22_1 ?_
        refine hV.iinc 1 (v := nI (j + 1)) (ls2 := [(3, .int (nI (j + 1))), (4, .int (mpV β (cv β j))), (2, .int most), (1, .int best), (0, .ref a)]) dX4_bestColumn_30 rfl (nI_1 _) (by decide) rfl ?_
        refine hV.goto (tgt := 6) dX4_bestColumn_33 (by decide) ?_
        refine hV.pick [0, 2, 3, 4] (ls2 := [(3, .int (nI (j + 1))), (2, .int most), (1, .int best), (0, .ref a)]) rfl ?_
        exact ih (j + 1) _ _ _ (by omega) (by simp only [bcC]; rw [← hb]; simp only [if_pos c22_1])
      · refine hV.icmp_le_f (tgt := 30) dX4_bestColumn_22 (by decide) c22_1 ?_
        refine hV.iload_n 1 dX4_bestColumn_25 rfl ?_
        refine hV.istore_n (ls2 := [(1, .int (nI j)), (4, .int (mpV β (cv β j))), (3, .int (nI j)), (2, .int most), (0, .ref a)]) dX4_bestColumn_26 (by decide) rfl ?_
        refine hV.iload 1 dX4_bestColumn_27 rfl ?_
        refine hV.istore_n (ls2 := [(2, .int (mpV β (cv β j))), (1, .int (nI j)), (4, .int (mpV β (cv β j))), (3, .int (nI j)), (0, .ref a)]) dX4_bestColumn_29 (by decide) rfl ?_
        refine hV.iinc 3 (v := nI (j + 1)) (ls2 := [(3, .int (nI (j + 1))), (2, .int (mpV β (cv β j))), (1, .int (nI j)), (4, .int (mpV β (cv β j))), (0, .ref a)]) dX4_bestColumn_30 rfl (nI_1 _) (by decide) rfl ?_
        refine hV.goto (tgt := 6) dX4_bestColumn_33 (by decide) ?_
        refine hV.pick [0, 1, 2, 4] (ls2 := [(3, .int (nI (j + 1))), (2, .int (mpV β (cv β j))), (1, .int (nI j)), (0, .ref a)]) rfl ?_
        exact ih (j + 1) _ _ _ (by omega) (by simp only [bcC]; rw [← hb]; simp only [if_neg c22_1])
  exact loop (7) 0 _ _ _ (by omega) rfl

set_option maxRecDepth 100000 in
set_option maxHeartbeats 1000000 in
theorem c_X4_payback {l : Launch} {D : va_G} {base : Nat} (G : l.stackTraces = false) {h : zH} {n : Nat} {a : Nat} {β τ : zB} {rf : Nat → Option Nat} {φ : Nat → Int32} {c π : zB} {sn : Option Nat} {o s : Int32} (hn : ¬ β 0 2 ≤ 0 → vf_n64 (FP.ddiv (FP.i2d (β 0 3)) (FP.i2d (β 0 2)))) :
    zCt l D base 8 yX4_payback w_X4_payback [.ref a] (zTo h a β τ o s rf φ c π sn) n 0 0 (zR (some (.double (pbV β))) (zTo h a β τ o s rf φ c π sn) (n)) := by
  refine zCt.of G (by decide) (Nat.le_of_ble_eq_true rfl) (fun Sx V X hV hE hX => ?_)
  show V 0 [(0, .ref a)] [] (zTo h a β τ o s rf φ c π sn) n 0 0
  refine hV.aload_n 0 dX4_payback_0 rfl ?_
  refine hV.getf (v := .ref (a + 1)) dX4_payback_1 fl_X4_12 To_o rfl ?_
  refine hV.getf (v := .ref (a + 1 + 1)) dX4_payback_4 fl_X4_71 To_B.1 rfl ?_
  refine hV.iconst (v := 2) dX4_payback_7 (by decide) ?_
  refine hV.iald (j := 2) dX4_payback_8 (zobjAt.arr To_B 0 17 (by decide) rfl) ⟨by decide, by decide⟩ (by decide) ?_
  refine hV.istore_n (ls2 := [(1, .int (β 0 2)), (0, .ref a)]) dX4_payback_9 (by decide) rfl ?_
  refine hV.iload_n 0 dX4_payback_10 rfl ?_
  by_cases c11_1 : (β 0 2) ≤ 0
  · refine hV.if_le_t (tgt := 30) dX4_payback_11 (by decide) c11_1 ?_
    refine hV.dconst0 dX4_payback_30 ?_
    exact hE.2.2.1 dX4_payback_31 rfl (by decide) (by decide) (zRd (by unfold pbV; rw [if_pos c11_1]) rfl rfl)
  · refine hV.if_le_f (tgt := 30) dX4_payback_11 (by decide) c11_1 ?_
    refine hV.aload_n 1 dX4_payback_14 rfl ?_
    refine hV.getf (v := .ref (a + 1)) dX4_payback_15 fl_X4_12 To_o rfl ?_
    refine hV.getf (v := .ref (a + 1 + 1)) dX4_payback_18 fl_X4_71 To_B.1 rfl ?_
    refine hV.iconst (v := 3) dX4_payback_21 (by decide) ?_
    refine hV.iald (j := 3) dX4_payback_22 (zobjAt.arr To_B 0 17 (by decide) rfl) ⟨by decide, by decide⟩ (by decide) ?_
    refine hV.i2d dX4_payback_23 ?_
    refine hV.iload_n 0 dX4_payback_24 rfl ?_
    refine hV.i2d dX4_payback_25 ?_
    refine hV.ddiv dX4_payback_26 (hn (by assumption)) ?_
    refine hV.goto (tgt := 31) dX4_payback_27 (by decide) ?_
    exact hE.2.2.1 dX4_payback_31 rfl (by decide) (by decide) (zRd (by unfold pbV; rw [if_neg c11_1]) rfl rfl)

