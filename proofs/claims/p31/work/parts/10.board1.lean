/-! What the class's Board does, as functions of its arrays: 0 numbers, 1 pins, 2 bentPins, 3 touchedPins, 4 kinds, 5 pays, 6 openTulips, 7 came, 8 paidBy, 9 signs -/
def dr1 (β : zB) : Int64 := (1103515245 * Int32.toInt64 (β 0 13) + 12345) - (1103515245 * Int32.toInt64 (β 0 13) + 12345) / 2147483648 * 2147483648
def drV (x : Int64) (m : Int32) : Int32 := Int64.toInt32 (x / 65536 - x / 65536 / Int32.toInt64 m * Int32.toInt64 m)
def dB (β : zB) : zB := up2 β 0 13 (Int64.toInt32 (dr1 β))
def isOpenV (β : zB) (p : Nat) : Int32 := if β 4 p = 1 then b2 (0 < β 0 9) else if β 4 p = 2 then b2 (β 6 p = 1) else 1
def payB (β : zB) (p : Nat) : zB := up2 (up2 (up2 (if β 5 p = 0 then up2 β 0 5 (β 0 5 + 1) else β) 0 0 (β 0 0 + β 5 p)) 0 3 (β 0 3 + β 5 p)) 8 p (β 8 p + β 5 p)
def comeB1 (β : zB) (p : Nat) : zB := up2 β 7 p (β 7 p + 1)
def comeB2 (β : zB) (p : Nat) (o : Int32) : zB := if β 4 p = 2 then up2 (comeB1 β p) 6 p (if o = 0 then 1 else 0) else if β 4 p = 1 then (if o = 0 then comeB1 β p else up2 (comeB1 β p) 0 9 (β 0 9 - 1)) else comeB1 β p
def comeB (β : zB) (p : Nat) : zB := if isOpenV β p = 0 then up2 (comeB2 β p (isOpenV β p)) 0 4 (β 0 4 + 1) else payB (comeB2 β p (isOpenV β p)) p
def comeR (β : zB) (p : Nat) : Int32 := if isOpenV β p = 0 then 0 else β 5 p
def chPocketB (β : zB) (p : Nat) (kd pay : Int32) : zB := up2 (up2 (if β 4 p = 2 then β else up2 β 6 p 0) 4 p kd) 5 p pay
def buyB (β : zB) (k : Int32) : zB := up2 (up2 β 0 0 (β 0 0 + k)) 0 1 (β 0 1 + k)
def tellV (β : zB) (p w : Nat) : Int32 := if w = 0 then β 4 p else if w = 1 then β 5 p else if w = 2 then isOpenV β p else if w = 3 then β 7 p else β 8 p
theorem isOpenV_1 {β : zB} {p : Nat} (h : ¬ isOpenV β p = 0) : isOpenV β p = 1 := by
  unfold isOpenV b2 at *
  by_cases a : β 4 p = 1
  · by_cases b : 0 < β 0 9
    · simp [a, b]
    · simp [a, b] at h
  · by_cases b : β 4 p = 2
    · by_cases d : β 6 p = 1
      · simp [b, d]
      · simp [b, d] at h
    · simp [a, b]
def addBent (β : zB) (m : Nat) (v : Int32) : zB := up2 (up2 β 2 m v) 0 16 (nI (m + 1))
def rbl (f : Nat → Int32) (v : Int32) : Nat → (Nat → Int32) × Nat
  | 0 => (f, 0)
  | j + 1 => if (rbl f v j).1 j = v then rbl f v j else (va_up (rbl f v j).1 (rbl f v j).2 ((rbl f v j).1 j), (rbl f v j).2 + 1)
def remBent (β : zB) (m : Nat) (v : Int32) : zB := up2 (sa β 2 (rbl (β 2) v m).1) 0 16 (nI (rbl (β 2) v m).2)
def bendB (β : zB) (i m : Nat) (t : Int32) : zB := if β 1 i = 0 then (if t = 0 then up2 β 1 i t else addBent (up2 β 1 i t) m (nI i)) else (if t = 0 then remBent (up2 β 1 i t) m (nI i) else up2 β 1 i t)
def spin1 (β : zB) : zB := if β 0 10 ≤ 0 then β else up2 β 0 10 (β 0 10 - 1)
def spinL (β : zB) : Int32 := if β 0 10 ≤ 0 then 8 else 4
def spin2 (β : zB) (m : Int32) (r : Nat) : zB := up2 (dB β) 9 r (drV (dr1 β) m)
def spin3 (β : zB) (m : Int32) : zB := spin2 (spin2 (spin2 β m 0) m 1) m 2
def spin4 (β : zB) : zB := up2 β 0 7 (β 0 7 + 1)
def spin5 (β : zB) : zB := if β 9 0 = β 9 1 then (if β 9 1 = β 9 2 then up2 (up2 (up2 β 0 8 (β 0 8 + 1)) 0 9 (β 0 14)) 0 10 (β 0 15) else up2 β 0 9 0) else up2 β 0 9 0
def spinB (β : zB) : zB := spin5 (spin4 (spin3 (spin1 β) (spinL β)))
/-- a ball goes on from the column c by the step s, or stays -/
def bnc (c : Nat) (s : Int32) : Nat := if s = 1 then (if c < 6 then c + 1 else c) else c - 1
theorem bnc_lt {c : Nat} {s : Int32} (h : c < 7) : bnc c s < 7 := by unfold bnc; split <;> (try split) <;> omega
theorem zI_m1 (c : Nat) : nI (c + 1) + (-1) = nI c := by rw [← nI_1]; rw [Int32.add_assoc]; simp
def fallS (β : zB) (r c : Nat) : zB × Nat := if β 1 (r * 7 + c) = 0 then (dB (up2 β 3 r (nI (r * 7 + c))), bnc c (if drV (dr1 (up2 β 3 r (nI (r * 7 + c)))) 2 = 0 then -1 else 1)) else (up2 β 3 r (nI (r * 7 + c)), bnc c (β 1 (r * 7 + c)))
def fallN (β : zB) (c : Nat) : Nat → zB × Nat
  | 0 => (β, c)
  | r + 1 => fallS (fallN β c r).1 r (fallN β c r).2
def pinOk (f : Nat → Int32) : Prop := ∀ i, i < 56 → f i = 0 ∨ f i = 1 ∨ f i = -1
theorem pinne {x : Int32} (h : x = 0 ∨ x = 1 ∨ x = -1) (h0 : ¬ x = 0) : x = 1 ∨ x = -1 := h.resolve_left h0
theorem fallN_pin (β : zB) (c r : Nat) : (fallN β c r).1 1 = β 1 := by
  induction r with
  | zero => rfl
  | succ r ih =>
    show (fallS _ _ _).1 1 = _
    rw [← ih]
    unfold fallS
    split <;> rfl
theorem fallN_lt (β : zB) {c : Nat} (hc : c < 7) (r : Nat) : (fallN β c r).2 < 7 := by
  induction r with
  | zero => exact hc
  | succ r ih =>
    show (fallS _ _ _).2 < 7
    unfold fallS
    split <;> exact bnc_lt ih
theorem spinB_pin (β : zB) : spinB β 1 = β 1 := by
  have h5 : ∀ γ : zB, spin5 γ 1 = γ 1 := fun γ => by unfold spin5; split <;> (try split) <;> rfl
  have h1 : spin1 β 1 = β 1 := by unfold spin1; split <;> rfl
  unfold spinB
  rw [h5, ← h1]
  rfl
def lch1 (β : zB) : zB := up2 (up2 β 0 0 (β 0 0 - 1)) 0 2 (β 0 2 + 1)
def lch2 (β : zB) : zB := if β 0 6 ≤ 0 then β else if b2 (0 < β 0 9) = 0 then spinB (up2 β 0 6 (β 0 6 - 1)) else β
def lch3 (β : zB) (c : Nat) : zB × Nat := fallN β c 8
def lch4 (β : zB) (p : Nat) : zB := up2 β 0 11 (nI p)
def lch5 (β : zB) (p : Nat) : zB := if nI p = β 0 12 then (if 4 ≤ β 0 6 then β else up2 β 0 6 (β 0 6 + 1)) else β
def lchA (β : zB) (c : Nat) : zB × Nat := lch3 (lch2 (lch1 β)) c
theorem lchA_eq (β : zB) (c : Nat) : fallN (lch2 (lch1 β)) c 8 = lchA β c := rfl
theorem lchA_lt (β : zB) {c : Nat} (hc : c < 7) : (lchA β c).2 < 7 := by rw [← lchA_eq]; exact fallN_lt _ hc 8
def lchB (β : zB) (c : Nat) : zB := lch5 (comeB (lch4 (lchA β c).1 (lchA β c).2) (lchA β c).2) (lchA β c).2
def lchR (β : zB) (c : Nat) : Int32 := comeR (lch4 (lchA β c).1 (lchA β c).2) (lchA β c).2
theorem lch2_pin (β : zB) : lch2 β 1 = β 1 := by unfold lch2; split <;> (try split) <;> first | rfl | (rw [spinB_pin]; rfl)
/-- as many launches as balls are in the hand, k at most: the board and what was paid -/
def plB (c : Nat) : Nat → zB × Int32 → zB × Int32
  | 0, q => q
  | k + 1, q => if q.1 0 0 ≤ 0 then q else plB c k (lchB q.1 c, q.2 + lchR q.1 c)
theorem payB_pin (β : zB) (p : Nat) : payB β p 1 = β 1 := by unfold payB; split <;> rfl
theorem comeB_pin (β : zB) (p : Nat) : comeB β p 1 = β 1 := by
  have h2 : ∀ o, comeB2 β p o 1 = β 1 := fun o => by unfold comeB2; split <;> (try split) <;> (try split) <;> rfl
  unfold comeB
  split
  · exact h2 _
  · rw [payB_pin]; exact h2 _
theorem lchB_pin (β : zB) (c : Nat) : lchB β c 1 = β 1 := by
  have h5 : ∀ (γ : zB) (p : Nat), lch5 γ p 1 = γ 1 := fun γ p => by unfold lch5; split <;> (try split) <;> rfl
  have h4 : ∀ (γ : zB) (p : Nat), lch4 γ p 1 = γ 1 := fun _ _ => rfl
  have h1 : lch1 β 1 = β 1 := rfl
  unfold lchB
  rw [h5, comeB_pin, h4]
  unfold lchA lch3
  rw [fallN_pin, lch2_pin, h1]
/-- what copyFrom makes of the arrays α by those of β -/
def cpB (α β : zB) : zB := fun j => if j < 10 then va_cpy (β j) (α j) 0 0 (lnB j) else α j

set_option maxRecDepth 100000 in
set_option maxHeartbeats 4000000 in
theorem c_X0_change {l : Launch} {D : va_G} {base : Nat} (G : l.stackTraces = false) {h : zH} {n : Nat} {b : Nat} {β : zB} {i : Nat} {v : Int32} (hi : i < 17) :
    zCt l D base 1 yX0_change w_X0_change [.ref b, .int (nI i), .int v] (setB h b β) n 0 0 (zR (some (.int (β 0 i))) (setB h b (up2 β 0 i v)) n) := by
  refine zCt.of G (by decide) (Nat.le_of_ble_eq_true rfl) (fun Sx V X hV hE hX => ?_)
  show V 0 [(0, .ref b), (1, .int (nI i)), (2, .int v)] [] (setB h b β) n 0 0
  refine hV.aload_n 0 dX0_change_0 rfl ?_
  refine hV.getf dX0_change_1 fl_X0_9 B_o rfl ?_
  refine hV.iload_n 1 dX0_change_4 rfl ?_
  refine hV.iald (j := i) dX0_change_5 B_a0 (zix_nI (by omega)) (by omega) ?_
  refine hV.istore_n (ls2 := [(3, .int (β 0 i)), (0, .ref b), (1, .int (nI i)), (2, .int v)]) dX0_change_6 (by decide) rfl ?_
  refine hV.aload_n 1 dX0_change_7 rfl ?_
  refine hV.getf dX0_change_8 fl_X0_9 B_o rfl ?_
  refine hV.iload_n 2 dX0_change_11 rfl ?_
  refine hV.iload_n 3 dX0_change_12 rfl ?_
  refine hV.iast (j := i) dX0_change_13 B_a0 (zix_nI (by omega)) (by omega) B_p0 ?_
  refine hV.iload_n 0 dX0_change_14 rfl ?_
  exact hE.1 dX0_change_15 rfl rfl (by decide) (by decide) (zRi rfl rfl rfl)

set_option maxRecDepth 100000 in
set_option maxHeartbeats 4000000 in
theorem c_X0_isHeldOpen {l : Launch} {D : va_G} {base : Nat} (G : l.stackTraces = false) {h : zH} {n : Nat} {b : Nat} {β : zB} :
    zCt l D base 1 yX0_isHeldOpen w_X0_isHeldOpen [.ref b] (setB h b β) n 0 0 (zR (some (.int (b2 (0 < β 0 9)))) (setB h b β) n) := by
  refine zCt.of G (by decide) (Nat.le_of_ble_eq_true rfl) (fun Sx V X hV hE hX => ?_)
  show V 0 [(0, .ref b)] [] (setB h b β) n 0 0
  refine hV.aload_n 0 dX0_isHeldOpen_0 rfl ?_
  refine hV.getf dX0_isHeldOpen_1 fl_X0_9 B_o rfl ?_
  refine hV.bipush (v := 9) dX0_isHeldOpen_4 (by decide) ?_
  refine hV.iald (j := 9) dX0_isHeldOpen_6 B_a0 ⟨by decide, by decide⟩ (by decide) ?_
  by_cases c7_1 : (β 0 9) ≤ 0
  · refine hV.if_le_t (tgt := 14) dX0_isHeldOpen_7 (by decide) c7_1 ?_
    refine hV.iconst (v := 0) dX0_isHeldOpen_14 (by decide) ?_
    exact hE.1 dX0_isHeldOpen_15 rfl rfl (by decide) (by decide) (zRi (by simp [b2, c7_1]) rfl rfl)
  · refine hV.if_le_f (tgt := 14) dX0_isHeldOpen_7 (by decide) c7_1 ?_
    refine hV.iconst (v := 1) dX0_isHeldOpen_10 (by decide) ?_
    refine hV.goto (tgt := 15) dX0_isHeldOpen_11 (by decide) ?_
    exact hE.1 dX0_isHeldOpen_15 rfl rfl (by decide) (by decide) (zRi (by simp [b2, c7_1]) rfl rfl)

set_option maxRecDepth 100000 in
set_option maxHeartbeats 4000000 in
theorem c_X0_isOpen {l : Launch} {D : va_G} {base : Nat} (G : l.stackTraces = false) {h : zH} {n : Nat} {b : Nat} {β : zB} {p : Nat} (hp : p < 7) :
    zCt l D base 2 yX0_isOpen w_X0_isOpen [.ref b, .int (nI p)] (setB h b β) n 0 0 (zR (some (.int (isOpenV β p))) (setB h b β) n) := by
  refine zCt.of G (by decide) (Nat.le_of_ble_eq_true rfl) (fun Sx V X hV hE hX => ?_)
  show V 0 [(0, .ref b), (1, .int (nI p))] [] (setB h b β) n 0 0
  refine hV.aload_n 0 dX0_isOpen_0 rfl ?_
  refine hV.getf dX0_isOpen_1 fl_X0_24 B_o rfl ?_
  refine hV.iload_n 1 dX0_isOpen_4 rfl ?_
  refine hV.iald (j := p) dX0_isOpen_5 B_a4 (zix_nI (by omega)) (by omega) ?_
  by_cases c6_1 : (β 4 p) = 1
  · skip
    refine hV.lookup (off := 26) (tgt := 32) dX0_isOpen_6 (by decide) (by rw [c6_1]; decide) (by decide) ?_
    refine hV.aload_n 0 dX0_isOpen_32 rfl ?_
    refine hV.callV1 (rest := []) dX0_isOpen_33 (c_X0_isHeldOpen G) my_X0_isHeldOpen kv_X0_71 B_o rfl rfl rfl (Nat.le_of_ble_eq_true rfl) (Nat.le_of_ble_eq_true rfl) (Nat.le_of_ble_eq_true rfl) (Nat.le_of_ble_eq_true rfl) (Nat.le_of_ble_eq_true rfl) (st2 := [.int (b2 (0 < β 0 9))]) (k2 := 0) (g2 := 0) rfl rfl rfl ?_
    exact hE.1 dX0_isOpen_36 rfl (by first | rfl | exact b2_nar) (by decide) (by decide) (zRi (by simp [isOpenV, b2, c6_1]) rfl rfl)
  by_cases c6_2 : (β 4 p) = 2
  · skip
    refine hV.lookup (off := 31) (tgt := 37) dX0_isOpen_6 (by decide) (by rw [c6_2]; decide) (by decide) ?_
    refine hV.aload_n 0 dX0_isOpen_37 rfl ?_
    refine hV.getf dX0_isOpen_38 fl_X0_30 B_o rfl ?_
    refine hV.iload_n 1 dX0_isOpen_41 rfl ?_
    refine hV.iald (j := p) dX0_isOpen_42 B_a6 (zix_nI (by omega)) (by omega) ?_
    refine hV.iconst (v := 1) dX0_isOpen_43 (by decide) ?_
    by_cases c44_3 : (β 6 p) = 1
    · refine hV.icmp_ne_f (tgt := 51) dX0_isOpen_44 (by decide) c44_3 ?_
      refine hV.iconst (v := 1) dX0_isOpen_47 (by decide) ?_
      refine hV.goto (tgt := 52) dX0_isOpen_48 (by decide) ?_
      exact hE.1 dX0_isOpen_52 rfl (by first | rfl | exact b2_nar) (by decide) (by decide) (zRi (by simp [isOpenV, b2, c6_1, c6_2, c44_3]) rfl rfl)
    · refine hV.icmp_ne_t (tgt := 51) dX0_isOpen_44 (by decide) c44_3 ?_
      refine hV.iconst (v := 0) dX0_isOpen_51 (by decide) ?_
      exact hE.1 dX0_isOpen_52 rfl (by first | rfl | exact b2_nar) (by decide) (by decide) (zRi (by simp [isOpenV, b2, c6_1, c6_2, c44_3]) rfl rfl)
  refine hV.lookup (off := 47) (tgt := 53) dX0_isOpen_6 (by decide) ((lv_osw c6_1 (by decide)).trans ((lv_osw c6_2 (by decide)).trans rfl)) (by decide) ?_
  refine hV.iconst (v := 1) dX0_isOpen_53 (by decide) ?_
  exact hE.1 dX0_isOpen_54 rfl (by first | rfl | exact b2_nar) (by decide) (by decide) (zRi (by simp [isOpenV, b2, c6_1, c6_2]) rfl rfl)

set_option maxRecDepth 100000 in
set_option maxHeartbeats 4000000 in
theorem c_X0_buyBalls {l : Launch} {D : va_G} {base : Nat} (G : l.stackTraces = false) {h : zH} {n : Nat} {b : Nat} {β : zB} {k : Int32} :
    zCt l D base 1 yX0_buyBalls w_X0_buyBalls [.ref b, .int k] (setB h b β) n 0 0 (zR none (setB h b (buyB β k)) n) := by
  refine zCt.of G (by decide) (Nat.le_of_ble_eq_true rfl) (fun Sx V X hV hE hX => ?_)
  show V 0 [(0, .ref b), (1, .int k)] [] (setB h b β) n 0 0
  refine hV.aload_n 0 dX0_buyBalls_0 rfl ?_
  refine hV.getf dX0_buyBalls_1 fl_X0_9 B_o rfl ?_
  refine hV.iconst (v := 0) dX0_buyBalls_4 (by decide) ?_
  refine hV.dup2 dX0_buyBalls_5 rfl rfl ?_
  refine hV.iald (j := 0) dX0_buyBalls_6 B_a0 ⟨by decide, by decide⟩ (by decide) ?_
  refine hV.iload_n 1 dX0_buyBalls_7 rfl ?_
  refine hV.iadd dX0_buyBalls_8 ?_
  refine hV.iast (j := 0) dX0_buyBalls_9 B_a0 ⟨by decide, by decide⟩ (by decide) B_p0 ?_
  refine hV.aload_n 0 dX0_buyBalls_10 rfl ?_
  refine hV.getf dX0_buyBalls_11 fl_X0_9 B_o rfl ?_
  refine hV.iconst (v := 1) dX0_buyBalls_14 (by decide) ?_
  refine hV.dup2 dX0_buyBalls_15 rfl rfl ?_
  refine hV.iald (j := 1) dX0_buyBalls_16 B_a0 ⟨by decide, by decide⟩ (by decide) ?_
  refine zTop (v := β 0 1) rfl ?_
  refine hV.iload_n 1 dX0_buyBalls_17 rfl ?_
  refine hV.iadd dX0_buyBalls_18 ?_
  refine hV.iast (j := 1) dX0_buyBalls_19 B_a0 ⟨by decide, by decide⟩ (by decide) B_p0 ?_
  exact hE.2.2.2 dX0_buyBalls_20 rfl (by decide) (by decide) (zRv rfl rfl)

set_option maxRecDepth 100000 in
set_option maxHeartbeats 4000000 in
theorem c_X0_drawBelow {l : Launch} {D : va_G} {base : Nat} (G : l.stackTraces = false) {h : zH} {n : Nat} {b : Nat} {β : zB} {m : Int32} (hm : 0 < m) (hm0 : ¬ Int32.toInt64 m = 0) :
    zCt l D base 1 yX0_drawBelow w_X0_drawBelow [.ref b, .int m] (setB h b β) n 0 0 (zR (some (.int (drV (dr1 β) m))) (setB h b (dB β)) n) := by
  refine zCt.of G (by decide) (Nat.le_of_ble_eq_true rfl) (fun Sx V X hV hE hX => ?_)
  show V 0 [(0, .ref b), (1, .int m)] [] (setB h b β) n 0 0
  refine hV.ldc2 dX0_drawBelow_0 kc_X0_88 ?_
  refine hV.aload_n 0 dX0_drawBelow_3 rfl ?_
  refine hV.getf dX0_drawBelow_4 fl_X0_9 B_o rfl ?_
  refine hV.bipush (v := 13) dX0_drawBelow_7 (by decide) ?_
  refine hV.iald (j := 13) dX0_drawBelow_9 B_a0 ⟨by decide, by decide⟩ (by decide) ?_
  refine hV.i2l dX0_drawBelow_10 rfl ?_
  refine hV.lmul dX0_drawBelow_11 ?_
  refine hV.ldc2 dX0_drawBelow_12 kc_X0_90 ?_
  refine hV.ladd dX0_drawBelow_15 ?_
  refine hV.ldc2 dX0_drawBelow_16 kc_X0_92 ?_
  refine hV.lrem dX0_drawBelow_19 (by decide) ?_
  refine hV.lstore_n (ls2 := [(2, .long (((1103515245 * (Int32.toInt64 (β 0 13))) + 12345) - ((1103515245 * (Int32.toInt64 (β 0 13))) + 12345) / 2147483648 * 2147483648)), (0, .ref b), (1, .int m)]) dX0_drawBelow_20 (by decide) rfl ?_
  refine hV.aload_n 1 dX0_drawBelow_21 rfl ?_
  refine hV.getf dX0_drawBelow_22 fl_X0_9 B_o rfl ?_
  refine hV.bipush (v := 13) dX0_drawBelow_25 (by decide) ?_
  refine hV.lload_n 0 dX0_drawBelow_27 rfl ?_
  refine hV.l2i dX0_drawBelow_28 rfl ?_
  refine hV.iast (j := 13) dX0_drawBelow_29 B_a0 ⟨by decide, by decide⟩ (by decide) B_p0 ?_
  refine hV.iload_n 2 dX0_drawBelow_30 rfl ?_
  refine hV.if_le_f (tgt := 46) dX0_drawBelow_31 (by decide) (by simpa using hm) ?_
  refine hV.lload_n 0 dX0_drawBelow_34 rfl ?_
  refine hV.ldc2 dX0_drawBelow_35 kc_X0_94 ?_
  refine hV.ldiv dX0_drawBelow_38 (by decide) ?_
  refine hV.iload_n 2 dX0_drawBelow_39 rfl ?_
  refine hV.i2l dX0_drawBelow_40 rfl ?_
  refine hV.lrem dX0_drawBelow_41 hm0 ?_
  refine hV.l2i dX0_drawBelow_42 rfl ?_
  refine hV.goto (tgt := 47) dX0_drawBelow_43 (by decide) ?_
  exact hE.1 dX0_drawBelow_47 rfl rfl (by decide) (by decide) (zRi rfl rfl rfl)

set_option maxRecDepth 100000 in
set_option maxHeartbeats 4000000 in
theorem c_X0_payFrom {l : Launch} {D : va_G} {base : Nat} (G : l.stackTraces = false) {h : zH} {n : Nat} {b : Nat} {β : zB} {p : Nat} (hp : p < 7) :
    zCt l D base 1 yX0_payFrom w_X0_payFrom [.ref b, .int (nI p)] (setB h b β) n 0 0 (zR (some (.int (β 5 p))) (setB h b (payB β p)) n) := by
  refine zCt.of G (by decide) (Nat.le_of_ble_eq_true rfl) (fun Sx V X hV hE hX => ?_)
  show V 0 [(0, .ref b), (1, .int (nI p))] [] (setB h b β) n 0 0
  refine hV.aload_n 0 dX0_payFrom_0 rfl ?_
  refine hV.getf dX0_payFrom_1 fl_X0_27 B_o rfl ?_
  refine hV.iload_n 1 dX0_payFrom_4 rfl ?_
  refine hV.iald (j := p) dX0_payFrom_5 B_a5 (zix_nI (by omega)) (by omega) ?_
  refine hV.istore_n (ls2 := [(2, .int (β 5 p)), (0, .ref b), (1, .int (nI p))]) dX0_payFrom_6 (by decide) rfl ?_
  refine hV.iload_n 0 dX0_payFrom_7 rfl ?_
  by_cases c8_1 : (β 5 p) = 0
  · refine hV.if_ne_f (tgt := 21) dX0_payFrom_8 (by decide) c8_1 ?_
    refine hV.aload_n 1 dX0_payFrom_11 rfl ?_
    refine hV.getf dX0_payFrom_12 fl_X0_9 B_o rfl ?_
    refine hV.iconst (v := 5) dX0_payFrom_15 (by decide) ?_
    refine hV.dup2 dX0_payFrom_16 rfl rfl ?_
    refine hV.iald (j := 5) dX0_payFrom_17 B_a0 ⟨by decide, by decide⟩ (by decide) ?_
    refine hV.iconst (v := 1) dX0_payFrom_18 (by decide) ?_
    refine hV.iadd dX0_payFrom_19 ?_
    refine hV.iast (j := 5) dX0_payFrom_20 B_a0 ⟨by decide, by decide⟩ (by decide) B_p0 ?_
    refine hV.aload_n 1 dX0_payFrom_21 rfl ?_
    refine hV.getf dX0_payFrom_22 fl_X0_9 B_o rfl ?_
    refine hV.iconst (v := 0) dX0_payFrom_25 (by decide) ?_
    refine hV.dup2 dX0_payFrom_26 rfl rfl ?_
    refine hV.iald (j := 0) dX0_payFrom_27 B_a0 ⟨by decide, by decide⟩ (by decide) ?_
    refine zTop (v := β 0 0) rfl ?_
    refine hV.iload_n 0 dX0_payFrom_28 rfl ?_
    refine hV.iadd dX0_payFrom_29 ?_
    refine hV.iast (j := 0) dX0_payFrom_30 B_a0 ⟨by decide, by decide⟩ (by decide) B_p0 ?_
    refine hV.aload_n 1 dX0_payFrom_31 rfl ?_
    refine hV.getf dX0_payFrom_32 fl_X0_9 B_o rfl ?_
    refine hV.iconst (v := 3) dX0_payFrom_35 (by decide) ?_
    refine hV.dup2 dX0_payFrom_36 rfl rfl ?_
    refine hV.iald (j := 3) dX0_payFrom_37 B_a0 ⟨by decide, by decide⟩ (by decide) ?_
    refine zTop (v := β 0 3) rfl ?_
    refine hV.iload_n 0 dX0_payFrom_38 rfl ?_
    refine hV.iadd dX0_payFrom_39 ?_
    refine hV.iast (j := 3) dX0_payFrom_40 B_a0 ⟨by decide, by decide⟩ (by decide) B_p0 ?_
    refine hV.aload_n 1 dX0_payFrom_41 rfl ?_
    refine hV.getf dX0_payFrom_42 fl_X0_36 B_o rfl ?_
    refine hV.iload_n 2 dX0_payFrom_45 rfl ?_
    refine hV.dup2 dX0_payFrom_46 rfl rfl ?_
    refine hV.iald (j := p) dX0_payFrom_47 B_a8 (zix_nI (by omega)) (by omega) ?_
    refine zTop (v := β 8 p) rfl ?_
    refine hV.iload_n 0 dX0_payFrom_48 rfl ?_
    refine hV.iadd dX0_payFrom_49 ?_
    refine hV.iast (j := p) dX0_payFrom_50 B_a8 (zix_nI (by omega)) (by omega) B_p8 ?_
    refine hV.iload_n 0 dX0_payFrom_51 rfl ?_
    exact hE.1 dX0_payFrom_52 rfl rfl (by decide) (by decide) (zRi rfl (by simp [payB, c8_1]) rfl)
  · refine hV.if_ne_t (tgt := 21) dX0_payFrom_8 (by decide) c8_1 ?_
    refine hV.aload_n 1 dX0_payFrom_21 rfl ?_
    refine hV.getf dX0_payFrom_22 fl_X0_9 B_o rfl ?_
    refine hV.iconst (v := 0) dX0_payFrom_25 (by decide) ?_
    refine hV.dup2 dX0_payFrom_26 rfl rfl ?_
    refine hV.iald (j := 0) dX0_payFrom_27 B_a0 ⟨by decide, by decide⟩ (by decide) ?_
    refine hV.iload_n 0 dX0_payFrom_28 rfl ?_
    refine hV.iadd dX0_payFrom_29 ?_
    refine hV.iast (j := 0) dX0_payFrom_30 B_a0 ⟨by decide, by decide⟩ (by decide) B_p0 ?_
    refine hV.aload_n 1 dX0_payFrom_31 rfl ?_
    refine hV.getf dX0_payFrom_32 fl_X0_9 B_o rfl ?_
    refine hV.iconst (v := 3) dX0_payFrom_35 (by decide) ?_
    refine hV.dup2 dX0_payFrom_36 rfl rfl ?_
    refine hV.iald (j := 3) dX0_payFrom_37 B_a0 ⟨by decide, by decide⟩ (by decide) ?_
    refine zTop (v := β 0 3) rfl ?_
    refine hV.iload_n 0 dX0_payFrom_38 rfl ?_
    refine hV.iadd dX0_payFrom_39 ?_
    refine hV.iast (j := 3) dX0_payFrom_40 B_a0 ⟨by decide, by decide⟩ (by decide) B_p0 ?_
    refine hV.aload_n 1 dX0_payFrom_41 rfl ?_
    refine hV.getf dX0_payFrom_42 fl_X0_36 B_o rfl ?_
    refine hV.iload_n 2 dX0_payFrom_45 rfl ?_
    refine hV.dup2 dX0_payFrom_46 rfl rfl ?_
    refine hV.iald (j := p) dX0_payFrom_47 B_a8 (zix_nI (by omega)) (by omega) ?_
    refine zTop (v := β 8 p) rfl ?_
    refine hV.iload_n 0 dX0_payFrom_48 rfl ?_
    refine hV.iadd dX0_payFrom_49 ?_
    refine hV.iast (j := p) dX0_payFrom_50 B_a8 (zix_nI (by omega)) (by omega) B_p8 ?_
    refine hV.iload_n 0 dX0_payFrom_51 rfl ?_
    exact hE.1 dX0_payFrom_52 rfl rfl (by decide) (by decide) (zRi rfl (by simp [payB, c8_1]) rfl)

set_option maxRecDepth 100000 in
set_option maxHeartbeats 4000000 in
theorem c_X0_comeTo {l : Launch} {D : va_G} {base : Nat} (G : l.stackTraces = false) {h : zH} {n : Nat} {b : Nat} {β : zB} {p : Nat} (hp : p < 7) :
    zCt l D base 3 yX0_comeTo w_X0_comeTo [.ref b, .int (nI p)] (setB h b β) n 0 0 (zR (some (.int (comeR β p))) (setB h b (comeB β p)) n) := by
  refine zCt.of G (by decide) (Nat.le_of_ble_eq_true rfl) (fun Sx V X hV hE hX => ?_)
  show V 0 [(0, .ref b), (1, .int (nI p))] [] (setB h b β) n 0 0
  refine hV.aload_n 0 dX0_comeTo_0 rfl ?_
  refine hV.iload_n 1 dX0_comeTo_1 rfl ?_
  refine hV.callV1 (rest := []) dX0_comeTo_2 (c_X0_isOpen G (p := p) (by omega)) my_X0_isOpen kv_X0_67 B_o rfl rfl rfl (Nat.le_of_ble_eq_true rfl) (Nat.le_of_ble_eq_true rfl) (Nat.le_of_ble_eq_true rfl) (Nat.le_of_ble_eq_true rfl) (Nat.le_of_ble_eq_true rfl) (st2 := [.int (isOpenV β p)]) (k2 := 0) (g2 := 0) rfl rfl rfl ?_
  refine hV.istore_n (ls2 := [(2, .int (isOpenV β p)), (0, .ref b), (1, .int (nI p))]) dX0_comeTo_5 (by decide) rfl ?_
  refine hV.aload_n 1 dX0_comeTo_6 rfl ?_
  refine hV.getf dX0_comeTo_7 fl_X0_33 B_o rfl ?_
  refine hV.iload_n 2 dX0_comeTo_10 rfl ?_
  refine hV.dup2 dX0_comeTo_11 rfl rfl ?_
  refine hV.iald (j := p) dX0_comeTo_12 B_a7 (zix_nI (by omega)) (by omega) ?_
  refine hV.iconst (v := 1) dX0_comeTo_13 (by decide) ?_
  refine hV.iadd dX0_comeTo_14 ?_
  refine hV.iast (j := p) dX0_comeTo_15 B_a7 (zix_nI (by omega)) (by omega) B_p7 ?_
  refine hV.aload_n 1 dX0_comeTo_16 rfl ?_
  refine hV.getf dX0_comeTo_17 fl_X0_24 B_o rfl ?_
  refine hV.iload_n 2 dX0_comeTo_20 rfl ?_
  refine hV.iald (j := p) dX0_comeTo_21 B_a4 (zix_nI (by omega)) (by omega) ?_
  refine zTop (v := β 4 p) rfl ?_
  refine hV.iconst (v := 2) dX0_comeTo_22 (by decide) ?_
  by_cases c23_1 : (β 4 p) = 2
  · refine hV.icmp_ne_f (tgt := 44) dX0_comeTo_23 (by decide) c23_1 ?_
    refine hV.aload_n 1 dX0_comeTo_26 rfl ?_
    refine hV.getf dX0_comeTo_27 fl_X0_30 B_o rfl ?_
    refine hV.iload_n 2 dX0_comeTo_30 rfl ?_
    refine hV.iload_n 0 dX0_comeTo_31 rfl ?_
    by_cases c32_2 : (isOpenV β p) = 0
    · refine hV.if_eq_t (tgt := 39) dX0_comeTo_32 (by decide) c32_2 ?_
      refine hV.iconst (v := 1) dX0_comeTo_39 (by decide) ?_
      refine hV.iast (j := p) dX0_comeTo_40 B_a6 (zix_nI (by omega)) (by omega) B_p6 ?_
      refine hV.goto (tgt := 69) dX0_comeTo_41 (by decide) ?_
      refine hV.iload_n 0 dX0_comeTo_69 rfl ?_
      refine hV.if_ne_f (tgt := 85) dX0_comeTo_70 (by decide) c32_2 ?_
      refine hV.aload_n 1 dX0_comeTo_73 rfl ?_
      refine hV.getf dX0_comeTo_74 fl_X0_9 B_o rfl ?_
      refine hV.iconst (v := 4) dX0_comeTo_77 (by decide) ?_
      refine hV.dup2 dX0_comeTo_78 rfl rfl ?_
      refine hV.iald (j := 4) dX0_comeTo_79 B_a0 ⟨by decide, by decide⟩ (by decide) ?_
      refine zTop (v := β 0 4) rfl ?_
      refine hV.iconst (v := 1) dX0_comeTo_80 (by decide) ?_
      refine hV.iadd dX0_comeTo_81 ?_
      refine hV.iast (j := 4) dX0_comeTo_82 B_a0 ⟨by decide, by decide⟩ (by decide) B_p0 ?_
      refine hV.iconst (v := 0) dX0_comeTo_83 (by decide) ?_
      exact hE.1 dX0_comeTo_84 rfl rfl (by decide) (by decide) (zRi (by simp [comeB, comeB2, comeB1, comeR, up2, va_up, c23_1, c32_2]) (by simp [comeB, comeB2, comeB1, c23_1, c32_2]) rfl)
    · refine hV.if_eq_f (tgt := 39) dX0_comeTo_32 (by decide) c32_2 ?_
      refine hV.iconst (v := 0) dX0_comeTo_35 (by decide) ?_
      refine hV.goto (tgt := 40) dX0_comeTo_36 (by decide) ?_
      refine hV.iast (j := p) dX0_comeTo_40 B_a6 (zix_nI (by omega)) (by omega) B_p6 ?_
      refine hV.goto (tgt := 69) dX0_comeTo_41 (by decide) ?_
      refine hV.iload_n 0 dX0_comeTo_69 rfl ?_
      refine hV.if_ne_t (tgt := 85) dX0_comeTo_70 (by decide) c32_2 ?_
      refine hV.aload_n 1 dX0_comeTo_85 rfl ?_
      refine hV.iload_n 2 dX0_comeTo_86 rfl ?_
      refine hV.callV1 (rest := []) dX0_comeTo_87 (c_X0_payFrom G (p := p) (by omega)) my_X0_payFrom kv_X0_103 B_o rfl rfl rfl (Nat.le_of_ble_eq_true rfl) (Nat.le_of_ble_eq_true rfl) (Nat.le_of_ble_eq_true rfl) (Nat.le_of_ble_eq_true rfl) (Nat.le_of_ble_eq_true rfl) (st2 := [.int ((up2 (up2 β 7 p ((β 7 p) + 1)) 6 p 0) 5 p)]) (k2 := 0) (g2 := 0) rfl rfl rfl ?_
      exact hE.1 dX0_comeTo_90 rfl rfl (by decide) (by decide) (zRi (by simp [comeB, comeB2, comeB1, comeR, up2, va_up, c23_1, c32_2]) (by simp [comeB, comeB2, comeB1, c23_1, c32_2]) rfl)
  · refine hV.icmp_ne_t (tgt := 44) dX0_comeTo_23 (by decide) c23_1 ?_
    refine hV.aload_n 1 dX0_comeTo_44 rfl ?_
    refine hV.getf dX0_comeTo_45 fl_X0_24 B_o rfl ?_
    refine hV.iload_n 2 dX0_comeTo_48 rfl ?_
    refine hV.iald (j := p) dX0_comeTo_49 B_a4 (zix_nI (by omega)) (by omega) ?_
    refine zTop (v := β 4 p) rfl ?_
    refine hV.iconst (v := 1) dX0_comeTo_50 (by decide) ?_
    by_cases c51_3 : (β 4 p) = 1
    · refine hV.icmp_ne_f (tgt := 69) dX0_comeTo_51 (by decide) c51_3 ?_
      refine hV.iload_n 0 dX0_comeTo_54 rfl ?_
      by_cases c55_4 : (isOpenV β p) = 0
      · refine hV.if_eq_t (tgt := 69) dX0_comeTo_55 (by decide) c55_4 ?_
        refine hV.iload_n 0 dX0_comeTo_69 rfl ?_
        refine hV.if_ne_f (tgt := 85) dX0_comeTo_70 (by decide) c55_4 ?_
        refine hV.aload_n 1 dX0_comeTo_73 rfl ?_
        refine hV.getf dX0_comeTo_74 fl_X0_9 B_o rfl ?_
        refine hV.iconst (v := 4) dX0_comeTo_77 (by decide) ?_
        refine hV.dup2 dX0_comeTo_78 rfl rfl ?_
        refine hV.iald (j := 4) dX0_comeTo_79 B_a0 ⟨by decide, by decide⟩ (by decide) ?_
        refine zTop (v := β 0 4) rfl ?_
        refine hV.iconst (v := 1) dX0_comeTo_80 (by decide) ?_
        refine hV.iadd dX0_comeTo_81 ?_
        refine hV.iast (j := 4) dX0_comeTo_82 B_a0 ⟨by decide, by decide⟩ (by decide) B_p0 ?_
        refine hV.iconst (v := 0) dX0_comeTo_83 (by decide) ?_
        exact hE.1 dX0_comeTo_84 rfl rfl (by decide) (by decide) (zRi (by simp [comeB, comeB2, comeB1, comeR, up2, va_up, c23_1, c51_3, c55_4]) (by simp [comeB, comeB2, comeB1, c23_1, c51_3, c55_4]) rfl)
      · refine hV.if_eq_f (tgt := 69) dX0_comeTo_55 (by decide) c55_4 ?_
        refine hV.aload_n 1 dX0_comeTo_58 rfl ?_
        refine hV.getf dX0_comeTo_59 fl_X0_9 B_o rfl ?_
        refine hV.bipush (v := 9) dX0_comeTo_62 (by decide) ?_
        refine hV.dup2 dX0_comeTo_64 rfl rfl ?_
        refine hV.iald (j := 9) dX0_comeTo_65 B_a0 ⟨by decide, by decide⟩ (by decide) ?_
        refine zTop (v := β 0 9) rfl ?_
        refine hV.iconst (v := 1) dX0_comeTo_66 (by decide) ?_
        refine hV.isub dX0_comeTo_67 ?_
        refine hV.iast (j := 9) dX0_comeTo_68 B_a0 ⟨by decide, by decide⟩ (by decide) B_p0 ?_
        refine hV.iload_n 0 dX0_comeTo_69 rfl ?_
        refine hV.if_ne_t (tgt := 85) dX0_comeTo_70 (by decide) c55_4 ?_
        refine hV.aload_n 1 dX0_comeTo_85 rfl ?_
        refine hV.iload_n 2 dX0_comeTo_86 rfl ?_
        refine hV.callV1 (rest := []) dX0_comeTo_87 (c_X0_payFrom G (p := p) (by omega)) my_X0_payFrom kv_X0_103 B_o rfl rfl rfl (Nat.le_of_ble_eq_true rfl) (Nat.le_of_ble_eq_true rfl) (Nat.le_of_ble_eq_true rfl) (Nat.le_of_ble_eq_true rfl) (Nat.le_of_ble_eq_true rfl) (st2 := [.int ((up2 (up2 β 7 p ((β 7 p) + 1)) 0 9 ((β 0 9) - 1)) 5 p)]) (k2 := 0) (g2 := 0) rfl rfl rfl ?_
        exact hE.1 dX0_comeTo_90 rfl rfl (by decide) (by decide) (zRi (by simp [comeB, comeB2, comeB1, comeR, up2, va_up, c23_1, c51_3, c55_4]) (by simp [comeB, comeB2, comeB1, c23_1, c51_3, c55_4]) rfl)
    · refine hV.icmp_ne_t (tgt := 69) dX0_comeTo_51 (by decide) c51_3 ?_
      refine hV.iload_n 0 dX0_comeTo_69 rfl ?_
      by_cases c70_5 : (isOpenV β p) = 0
      · refine hV.if_ne_f (tgt := 85) dX0_comeTo_70 (by decide) c70_5 ?_
        refine hV.aload_n 1 dX0_comeTo_73 rfl ?_
        refine hV.getf dX0_comeTo_74 fl_X0_9 B_o rfl ?_
        refine hV.iconst (v := 4) dX0_comeTo_77 (by decide) ?_
        refine hV.dup2 dX0_comeTo_78 rfl rfl ?_
        refine hV.iald (j := 4) dX0_comeTo_79 B_a0 ⟨by decide, by decide⟩ (by decide) ?_
        refine zTop (v := β 0 4) rfl ?_
        refine hV.iconst (v := 1) dX0_comeTo_80 (by decide) ?_
        refine hV.iadd dX0_comeTo_81 ?_
        refine hV.iast (j := 4) dX0_comeTo_82 B_a0 ⟨by decide, by decide⟩ (by decide) B_p0 ?_
        refine hV.iconst (v := 0) dX0_comeTo_83 (by decide) ?_
        exact hE.1 dX0_comeTo_84 rfl rfl (by decide) (by decide) (zRi (by simp [comeB, comeB2, comeB1, comeR, up2, va_up, c23_1, c51_3, c70_5]) (by simp [comeB, comeB2, comeB1, c23_1, c51_3, c70_5]) rfl)
      · refine hV.if_ne_t (tgt := 85) dX0_comeTo_70 (by decide) c70_5 ?_
        refine hV.aload_n 1 dX0_comeTo_85 rfl ?_
        refine hV.iload_n 2 dX0_comeTo_86 rfl ?_
        refine hV.callV1 (rest := []) dX0_comeTo_87 (c_X0_payFrom G (p := p) (by omega)) my_X0_payFrom kv_X0_103 B_o rfl rfl rfl (Nat.le_of_ble_eq_true rfl) (Nat.le_of_ble_eq_true rfl) (Nat.le_of_ble_eq_true rfl) (Nat.le_of_ble_eq_true rfl) (Nat.le_of_ble_eq_true rfl) (st2 := [.int ((up2 β 7 p ((β 7 p) + 1)) 5 p)]) (k2 := 0) (g2 := 0) rfl rfl rfl ?_
        exact hE.1 dX0_comeTo_90 rfl rfl (by decide) (by decide) (zRi (by simp [comeB, comeB2, comeB1, comeR, up2, va_up, c23_1, c51_3, c70_5]) (by simp [comeB, comeB2, comeB1, c23_1, c51_3, c70_5]) rfl)

set_option maxRecDepth 100000 in
set_option maxHeartbeats 4000000 in
theorem c_X0_changePocket {l : Launch} {D : va_G} {base : Nat} (G : l.stackTraces = false) {h : zH} {n : Nat} {b : Nat} {β : zB} {p : Nat} {kd pay : Int32} (hp : p < 7) :
    zCt l D base 1 yX0_changePocket w_X0_changePocket [.ref b, .int (nI p), .int kd, .int pay] (setB h b β) n 0 0 (zR (some (.int (β 5 p))) (setB h b (chPocketB β p kd pay)) n) := by
  refine zCt.of G (by decide) (Nat.le_of_ble_eq_true rfl) (fun Sx V X hV hE hX => ?_)
  show V 0 [(0, .ref b), (1, .int (nI p)), (2, .int kd), (3, .int pay)] [] (setB h b β) n 0 0
  refine hV.aload_n 0 dX0_changePocket_0 rfl ?_
  refine hV.getf dX0_changePocket_1 fl_X0_27 B_o rfl ?_
  refine hV.iload_n 1 dX0_changePocket_4 rfl ?_
  refine hV.iald (j := p) dX0_changePocket_5 B_a5 (zix_nI (by omega)) (by omega) ?_
  refine hV.istore (ls2 := [(4, .int (β 5 p)), (0, .ref b), (1, .int (nI p)), (2, .int kd), (3, .int pay)]) dX0_changePocket_6 (by decide) rfl ?_
  refine hV.aload_n 1 dX0_changePocket_8 rfl ?_
  refine hV.getf dX0_changePocket_9 fl_X0_24 B_o rfl ?_
  refine hV.iload_n 2 dX0_changePocket_12 rfl ?_
  refine hV.iald (j := p) dX0_changePocket_13 B_a4 (zix_nI (by omega)) (by omega) ?_
  refine hV.iconst (v := 2) dX0_changePocket_14 (by decide) ?_
  by_cases c15_1 : (β 4 p) = 2
  · refine hV.icmp_eq_t (tgt := 25) dX0_changePocket_15 (by decide) c15_1 ?_
    refine hV.aload_n 1 dX0_changePocket_25 rfl ?_
    refine hV.getf dX0_changePocket_26 fl_X0_24 B_o rfl ?_
    refine hV.iload_n 2 dX0_changePocket_29 rfl ?_
    refine hV.iload_n 3 dX0_changePocket_30 rfl ?_
    refine hV.iast (j := p) dX0_changePocket_31 B_a4 (zix_nI (by omega)) (by omega) B_p4 ?_
    refine hV.aload_n 1 dX0_changePocket_32 rfl ?_
    refine hV.getf dX0_changePocket_33 fl_X0_27 B_o rfl ?_
    refine hV.iload_n 2 dX0_changePocket_36 rfl ?_
    refine hV.iload_n 4 dX0_changePocket_37 rfl ?_
    refine hV.iast (j := p) dX0_changePocket_38 B_a5 (zix_nI (by omega)) (by omega) B_p5 ?_
    refine hV.iload 0 dX0_changePocket_39 rfl ?_
    exact hE.1 dX0_changePocket_41 rfl rfl (by decide) (by decide) (zRi rfl (by simp [chPocketB, c15_1]) rfl)
  · refine hV.icmp_eq_f (tgt := 25) dX0_changePocket_15 (by decide) c15_1 ?_
    refine hV.aload_n 1 dX0_changePocket_18 rfl ?_
    refine hV.getf dX0_changePocket_19 fl_X0_30 B_o rfl ?_
    refine hV.iload_n 2 dX0_changePocket_22 rfl ?_
    refine hV.iconst (v := 0) dX0_changePocket_23 (by decide) ?_
    refine hV.iast (j := p) dX0_changePocket_24 B_a6 (zix_nI (by omega)) (by omega) B_p6 ?_
    refine hV.aload_n 1 dX0_changePocket_25 rfl ?_
    refine hV.getf dX0_changePocket_26 fl_X0_24 B_o rfl ?_
    refine hV.iload_n 2 dX0_changePocket_29 rfl ?_
    refine hV.iload_n 3 dX0_changePocket_30 rfl ?_
    refine hV.iast (j := p) dX0_changePocket_31 B_a4 (zix_nI (by omega)) (by omega) B_p4 ?_
    refine hV.aload_n 1 dX0_changePocket_32 rfl ?_
    refine hV.getf dX0_changePocket_33 fl_X0_27 B_o rfl ?_
    refine hV.iload_n 2 dX0_changePocket_36 rfl ?_
    refine hV.iload_n 4 dX0_changePocket_37 rfl ?_
    refine hV.iast (j := p) dX0_changePocket_38 B_a5 (zix_nI (by omega)) (by omega) B_p5 ?_
    refine hV.iload 0 dX0_changePocket_39 rfl ?_
    exact hE.1 dX0_changePocket_41 rfl rfl (by decide) (by decide) (zRi rfl (by simp [chPocketB, c15_1]) rfl)

set_option maxRecDepth 100000 in
set_option maxHeartbeats 4000000 in
theorem c_X0_tellPocket {l : Launch} {D : va_G} {base : Nat} (G : l.stackTraces = false) {h : zH} {n : Nat} {b : Nat} {β : zB} {p w : Nat} (hp : p < 7) (hw : w < 5) :
    zCt l D base 3 yX0_tellPocket w_X0_tellPocket [.ref b, .int (nI p), .int (nI w)] (setB h b β) n 0 0 (zR (some (.int (tellV β p w))) (setB h b β) n) := by
  refine zCt.of G (by decide) (Nat.le_of_ble_eq_true rfl) (fun Sx V X hV hE hX => ?_)
  show V 0 [(0, .ref b), (1, .int (nI p)), (2, .int (nI w))] [] (setB h b β) n 0 0
  rcases (show w = 0 ∨ w = 1 ∨ w = 2 ∨ w = 3 ∨ w = 4 by omega) with rfl | rfl | rfl | rfl | rfl
  · skip
    show V 0 [(0, .ref b), (1, .int (nI p)), (2, .int 0)] [] (setB h b β) n 0 0
    refine hV.iload_n 2 dX0_tellPocket_0 rfl ?_
    refine hV.tblin (off := 31) (tgt := 32) dX0_tellPocket_1 (by decide) (by decide) (by decide) (by decide) ?_
    refine hV.aload_n 0 dX0_tellPocket_32 rfl ?_
    refine hV.getf dX0_tellPocket_33 fl_X0_24 B_o rfl ?_
    refine hV.iload_n 1 dX0_tellPocket_36 rfl ?_
    refine hV.iald (j := p) dX0_tellPocket_37 B_a4 (zix_nI (by omega)) (by omega) ?_
    exact hE.1 dX0_tellPocket_38 rfl rfl (by decide) (by decide) (zRi (by first | (simp [tellV, ]; done) | (simp only [tellV]; exact (isOpenV_1 (by assumption)).symm)) rfl rfl)
  · skip
    show V 0 [(0, .ref b), (1, .int (nI p)), (2, .int 1)] [] (setB h b β) n 0 0
    refine hV.iload_n 2 dX0_tellPocket_0 rfl ?_
    refine hV.tblin (off := 38) (tgt := 39) dX0_tellPocket_1 (by decide) (by decide) (by decide) (by decide) ?_
    refine hV.aload_n 0 dX0_tellPocket_39 rfl ?_
    refine hV.getf dX0_tellPocket_40 fl_X0_27 B_o rfl ?_
    refine hV.iload_n 1 dX0_tellPocket_43 rfl ?_
    refine hV.iald (j := p) dX0_tellPocket_44 B_a5 (zix_nI (by omega)) (by omega) ?_
    exact hE.1 dX0_tellPocket_45 rfl rfl (by decide) (by decide) (zRi (by first | (simp [tellV, ]; done) | (simp only [tellV]; exact (isOpenV_1 (by assumption)).symm)) rfl rfl)
  · skip
    show V 0 [(0, .ref b), (1, .int (nI p)), (2, .int 2)] [] (setB h b β) n 0 0
    refine hV.iload_n 2 dX0_tellPocket_0 rfl ?_
    refine hV.tblin (off := 45) (tgt := 46) dX0_tellPocket_1 (by decide) (by decide) (by decide) (by decide) ?_
    refine hV.aload_n 0 dX0_tellPocket_46 rfl ?_
    refine hV.iload_n 1 dX0_tellPocket_47 rfl ?_
    refine hV.callV1 (rest := []) dX0_tellPocket_48 (c_X0_isOpen G (p := p) (by omega)) my_X0_isOpen kv_X0_67 B_o rfl rfl rfl (Nat.le_of_ble_eq_true rfl) (Nat.le_of_ble_eq_true rfl) (Nat.le_of_ble_eq_true rfl) (Nat.le_of_ble_eq_true rfl) (Nat.le_of_ble_eq_true rfl) (st2 := [.int (isOpenV β p)]) (k2 := 0) (g2 := 0) rfl rfl rfl ?_
    by_cases c51_1 : (isOpenV β p) = 0
    · refine hV.if_eq_t (tgt := 58) dX0_tellPocket_51 (by decide) c51_1 ?_
      refine hV.iconst (v := 0) dX0_tellPocket_58 (by decide) ?_
      exact hE.1 dX0_tellPocket_59 rfl rfl (by decide) (by decide) (zRi (by first | (simp [tellV, c51_1]; done) | (simp only [tellV]; exact (isOpenV_1 (by assumption)).symm)) rfl rfl)
    · refine hV.if_eq_f (tgt := 58) dX0_tellPocket_51 (by decide) c51_1 ?_
      refine hV.iconst (v := 1) dX0_tellPocket_54 (by decide) ?_
      refine hV.goto (tgt := 59) dX0_tellPocket_55 (by decide) ?_
      exact hE.1 dX0_tellPocket_59 rfl rfl (by decide) (by decide) (zRi (by first | (simp [tellV, c51_1]; done) | (simp only [tellV]; exact (isOpenV_1 (by assumption)).symm)) rfl rfl)
  · skip
    show V 0 [(0, .ref b), (1, .int (nI p)), (2, .int 3)] [] (setB h b β) n 0 0
    refine hV.iload_n 2 dX0_tellPocket_0 rfl ?_
    refine hV.tblin (off := 59) (tgt := 60) dX0_tellPocket_1 (by decide) (by decide) (by decide) (by decide) ?_
    refine hV.aload_n 0 dX0_tellPocket_60 rfl ?_
    refine hV.getf dX0_tellPocket_61 fl_X0_33 B_o rfl ?_
    refine hV.iload_n 1 dX0_tellPocket_64 rfl ?_
    refine hV.iald (j := p) dX0_tellPocket_65 B_a7 (zix_nI (by omega)) (by omega) ?_
    exact hE.1 dX0_tellPocket_66 rfl rfl (by decide) (by decide) (zRi (by first | (simp [tellV, ]; done) | (simp only [tellV]; exact (isOpenV_1 (by assumption)).symm)) rfl rfl)
  · skip
    show V 0 [(0, .ref b), (1, .int (nI p)), (2, .int 4)] [] (setB h b β) n 0 0
    refine hV.iload_n 2 dX0_tellPocket_0 rfl ?_
    refine hV.tblout (tgt := 67) dX0_tellPocket_1 (by decide) (by decide) ?_
    refine hV.aload_n 0 dX0_tellPocket_67 rfl ?_
    refine hV.getf dX0_tellPocket_68 fl_X0_36 B_o rfl ?_
    refine hV.iload_n 1 dX0_tellPocket_71 rfl ?_
    refine hV.iald (j := p) dX0_tellPocket_72 B_a8 (zix_nI (by omega)) (by omega) ?_
    exact hE.1 dX0_tellPocket_73 rfl rfl (by decide) (by decide) (zRi (by first | (simp [tellV, ]; done) | (simp only [tellV]; exact (isOpenV_1 (by assumption)).symm)) rfl rfl)

