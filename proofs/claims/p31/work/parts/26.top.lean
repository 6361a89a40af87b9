/-! A whole PachinkoReels: its object at a, board a + 1, the tried board a + 12, history a + 23, its ring a + 24, text a + 25, paths a + 27; the saved boards lie in h -/
def zTo (h : zH) (a : Nat) (β τ : zB) (o s : Int32) (rf : Nat → Option Nat) (φ : Nat → Int32) (c π : zB) (sn : Option Nat) : zH := fun q =>
  if q = a then some (.inr (4, [.ref (a + 1), .ref (a + 12), .ref (a + 23), .ref (a + 25), .ref (a + 27), va_rf sn]))
  else if q = a + 23 then some (.inr (1, [.ref (a + 24), .int o, .int s]))
  else if q = a + 24 then some (.inl (6, .inr (.inr (.inr (.inr rf)))))
  else setB (setB (setT (setP h (a + 27) π) (a + 25) φ c) (a + 12) τ) (a + 1) β q
theorem To_o {h : zH} {a : Nat} {β τ : zB} {o s : Int32} {rf : Nat → Option Nat} {φ : Nat → Int32} {c π : zB} {sn : Option Nat} : (zTo h a β τ o s rf φ c π sn) a = some (.inr (4, [.ref (a + 1), .ref (a + 12), .ref (a + 23), .ref (a + 25), .ref (a + 27), va_rf sn])) := if_pos rfl
theorem To_h {h : zH} {a : Nat} {β τ : zB} {o s : Int32} {rf : Nat → Option Nat} {φ : Nat → Int32} {c π : zB} {sn : Option Nat} : (zTo h a β τ o s rf φ c π sn) (a + 23) = some (.inr (1, [.ref (a + 24), .int o, .int s])) := by
  unfold zTo; rw [if_neg (by omega), if_pos rfl]
theorem To_r {h : zH} {a : Nat} {β τ : zB} {o s : Int32} {rf : Nat → Option Nat} {φ : Nat → Int32} {c π : zB} {sn : Option Nat} : (zTo h a β τ o s rf φ c π sn) (a + 24) = some (.inl (6, .inr (.inr (.inr (.inr rf))))) := by
  unfold zTo; rw [if_neg (by omega), if_neg (by omega), if_pos rfl]
theorem To_in {h : zH} {a : Nat} {β τ : zB} {o s : Int32} {rf : Nat → Option Nat} {φ : Nat → Int32} {c π : zB} {sn : Option Nat} {q : Nat} (h1 : q ≠ a) (h2 : q ≠ a + 23) (h3 : q ≠ a + 24) : (zTo h a β τ o s rf φ c π sn) q = setB (setB (setT (setP h (a + 27) π) (a + 25) φ c) (a + 12) τ) (a + 1) β q := by
  unfold zTo; rw [if_neg h1, if_neg h2, if_neg h3]
theorem To_out {h : zH} {a : Nat} {β τ : zB} {o s : Int32} {rf : Nat → Option Nat} {φ : Nat → Int32} {c π : zB} {sn : Option Nat} {q : Nat} (hq : q < a ∨ a + 30 < q) : (zTo h a β τ o s rf φ c π sn) q = h q := by
  exact (To_in (by omega) (by omega) (by omega)).trans ((zobj_out (by omega)).trans ((zobj_out (by omega)).trans ((zobj_out (by omega)).trans (zobj_out (by omega)))))
theorem To_B {h : zH} {a : Nat} {β τ : zB} {o s : Int32} {rf : Nat → Option Nat} {φ : Nat → Int32} {c π : zB} {sn : Option Nat} : zobjAt (0, fsB (a + 1)) 10 lnB β (a + 1) (zTo h a β τ o s rf φ c π sn) := zobjAt.kept zobjAt.mk (fun q h1 h2 => To_in (by omega) (by omega) (by omega))
theorem To_R {h : zH} {a : Nat} {β τ : zB} {o s : Int32} {rf : Nat → Option Nat} {φ : Nat → Int32} {c π : zB} {sn : Option Nat} : zobjAt (0, fsB (a + 12)) 10 lnB τ (a + 12) (zTo h a β τ o s rf φ c π sn) := zobjAt.kept zobjAt.mk (fun q h1 h2 => (To_in (by omega) (by omega) (by omega)).trans (zobj_out (by omega)))
theorem To_T {h : zH} {a : Nat} {β τ : zB} {o s : Int32} {rf : Nat → Option Nat} {φ : Nat → Int32} {c π : zB} {sn : Option Nat} : zobjAt (3, fsT (a + 25) φ) 1 lnT c (a + 25) (zTo h a β τ o s rf φ c π sn) := zobjAt.kept zobjAt.mk (fun q h1 h2 => (To_in (by omega) (by omega) (by omega)).trans ((zobj_out (by omega)).trans (zobj_out (by omega))))
theorem To_P {h : zH} {a : Nat} {β τ : zB} {o s : Int32} {rf : Nat → Option Nat} {φ : Nat → Int32} {c π : zB} {sn : Option Nat} : zobjAt (2, fsP (a + 27)) 3 lnP π (a + 27) (zTo h a β τ o s rf φ c π sn) := zobjAt.kept zobjAt.mk (fun q h1 h2 => (To_in (by omega) (by omega) (by omega)).trans ((zobj_out (by omega)).trans ((zobj_out (by omega)).trans (zobj_out (by omega)))))
theorem setIn {o : Nat × List Value} {k : Nat} {ln : Nat → Nat} {β : zB} {b : Nat} {h h2 : zH} (he : ∀ q, (q < b ∨ b + k < q) → h q = h2 q) : zobj o k ln β b h = zobj o k ln β b h2 := by
  funext q
  unfold zobj
  by_cases h1 : q = b
  · rw [if_pos h1, if_pos h1]
  · rw [if_neg h1, if_neg h1]
    by_cases h2 : b < q ∧ q ≤ b + k
    · rw [if_pos h2, if_pos h2]
    · rw [if_neg h2, if_neg h2]; exact he q (by omega)
theorem To_q {h h2 : zH} {a : Nat} {β β2 τ τ2 : zB} {o s : Int32} {rf : Nat → Option Nat} {φ φ2 : Nat → Int32} {c c2 π π2 : zB} {sn : Option Nat} {q : Nat}
    (e : setB (setB (setT (setP h (a + 27) π) (a + 25) φ c) (a + 12) τ) (a + 1) β q = setB (setB (setT (setP h2 (a + 27) π2) (a + 25) φ2 c2) (a + 12) τ2) (a + 1) β2 q) : zTo h a β τ o s rf φ c π sn q = zTo h2 a β2 τ2 o s rf φ2 c2 π2 sn q := by
  unfold zTo
  rw [e]
theorem zobj_cg {o : Nat × List Value} {k : Nat} {ln : Nat → Nat} {β : zB} {b : Nat} {h h2 : zH} {q : Nat} (he : h q = h2 q) : zobj o k ln β b h q = zobj o k ln β b h2 q := by
  unfold zobj
  rw [he]
theorem To_B' {h : zH} {a : Nat} {β τ : zB} {o s : Int32} {rf : Nat → Option Nat} {φ : Nat → Int32} {c π : zB} {sn : Option Nat} {β2 : zB} : setB (zTo h a β τ o s rf φ c π sn) (a + 1) β2 = zTo h a β2 τ o s rf φ c π sn :=
  (setIn (fun q hq => To_q ((zobj_out hq).trans (zobj_out hq).symm))).trans To_B.set
theorem To_R' {h : zH} {a : Nat} {β τ : zB} {o s : Int32} {rf : Nat → Option Nat} {φ : Nat → Int32} {c π : zB} {sn : Option Nat} {β2 : zB} : setB (zTo h a β τ o s rf φ c π sn) (a + 12) β2 = zTo h a β β2 o s rf φ c π sn :=
  (setIn (fun q hq => To_q (zobj_cg ((zobj_out hq).trans (zobj_out hq).symm)))).trans To_R.set
theorem To_T' {h : zH} {a : Nat} {β τ : zB} {o s : Int32} {rf : Nat → Option Nat} {φ : Nat → Int32} {c π : zB} {sn : Option Nat} {φ2 : Nat → Int32} {c2 : zB} : setT (zTo h a β τ o s rf φ c π sn) (a + 25) φ2 c2 = zTo h a β τ o s rf φ2 c2 π sn :=
  (setIn (fun q hq => To_q (zobj_cg (zobj_cg ((zobj_out hq).trans (zobj_out hq).symm))))).trans To_T.set
theorem To_P' {h : zH} {a : Nat} {β τ : zB} {o s : Int32} {rf : Nat → Option Nat} {φ : Nat → Int32} {c π : zB} {sn : Option Nat} {β2 : zB} : setP (zTo h a β τ o s rf φ c π sn) (a + 27) β2 = zTo h a β τ o s rf φ c β2 sn :=
  (setIn (fun q hq => To_q (zobj_cg (zobj_cg (zobj_cg ((zobj_out hq).trans (zobj_out hq).symm)))))).trans To_P.set
theorem To_po {h : zH} {a : Nat} {β τ : zB} {o s : Int32} {rf : Nat → Option Nat} {φ : Nat → Int32} {c π : zB} {sn : Option Nat} {x : Value} {sn2 : Option Nat} (hx : x = va_rf sn2 := by rfl) : zput (zTo h a β τ o s rf φ c π sn) a (some (.inr (4, [.ref (a + 1), .ref (a + 12), .ref (a + 23), .ref (a + 25), .ref (a + 27), x]))) = zTo h a β τ o s rf φ c π sn2 := by
  subst hx
  funext q
  unfold zput zTo
  split <;> rfl
theorem To_ph {h : zH} {a : Nat} {β τ : zB} {o s : Int32} {rf : Nat → Option Nat} {φ : Nat → Int32} {c π : zB} {sn : Option Nat} {o2 s2 : Int32} : zput (zTo h a β τ o s rf φ c π sn) (a + 23) (some (.inr (1, [.ref (a + 24), .int o2, .int s2]))) = zTo h a β τ o2 s2 rf φ c π sn := by
  funext q
  unfold zput zTo
  by_cases h1 : q = a + 23
  · rw [if_pos h1, if_neg (by omega), if_pos h1]
  · rw [if_neg h1, if_neg h1, if_neg h1]
theorem To_pr {h : zH} {a : Nat} {β τ : zB} {o s : Int32} {rf : Nat → Option Nat} {φ : Nat → Int32} {c π : zB} {sn : Option Nat} {f : Nat → Option Nat} : zput (zTo h a β τ o s rf φ c π sn) (a + 24) (some (.inl (6, .inr (.inr (.inr (.inr f)))))) = zTo h a β τ o s f φ c π sn := by
  funext q
  unfold zput zTo
  by_cases h1 : q = a + 24
  · rw [if_pos h1, if_neg (by omega), if_neg (by omega), if_pos h1]
  · rw [if_neg h1, if_neg h1, if_neg h1]
/-- an object of h itself -/
theorem To_xs {h : zH} {a : Nat} {β τ : zB} {o s : Int32} {rf : Nat → Option Nat} {φ : Nat → Int32} {c π : zB} {sn : Option Nat} {ob : Nat × List Value} {k : Nat} {ln : Nat → Nat} {x : zB} {q : Nat} (hq : q + k < a ∨ a + 30 < q) : zobj ob k ln x q (zTo h a β τ o s rf φ c π sn) = zTo (zobj ob k ln x q h) a β τ o s rf φ c π sn := by
  funext p
  by_cases h1 : a ≤ p ∧ p ≤ a + 30
  · exact (zobj_out (by omega)).trans (To_q (zobj_cg (zobj_cg (zobj_cg (zobj_cg (zobj_out (by omega)).symm)))))
  · exact (zobj_cg (To_out (by omega))).trans (To_out (by omega)).symm
theorem To_xa {h : zH} {a : Nat} {β τ : zB} {o s : Int32} {rf : Nat → Option Nat} {φ : Nat → Int32} {c π : zB} {sn : Option Nat} {ob : Nat × List Value} {k : Nat} {ln : Nat → Nat} {x : zB} {q : Nat} (hx : zobjAt ob k ln x q h) (hq : q + k < a ∨ a + 30 < q) : zobjAt ob k ln x q (zTo h a β τ o s rf φ c π sn) := hx.kept (fun p h1 h2 => To_out (by omega))
theorem zobjAt.arr {o : Nat × List Value} {k : Nat} {ln : Nat → Nat} {β : zB} {b : Nat} {h : zH} (hh : zobjAt o k ln β b h) (j N : Nat) (hj : j < k) (e : ln j = N) : h (b + (j + 1)) = some (.inl (N, .inl (β j))) := by rw [← e]; exact hh.2 j hj
theorem nI_mod {x : Nat} (hx : x < 2 ^ 31) (m : Nat) (hm : m < 2 ^ 31) : nI x - nI x / nI m * nI m = nI (x % m) := by
  rw [nI_div hx hm, zI_mul, zI_sub (Nat.div_mul_le_self x m)]
  refine congrArg nI ?_
  have := Nat.div_add_mod x m
  rw [Nat.mul_comm] at this
  omega

set_option maxRecDepth 100000 in
set_option maxHeartbeats 4000000 in
theorem c_X1_save_x {l : Launch} {D : va_G} {base : Nat} (G : l.stackTraces = false) {h : zH} {n : Nat} {a : Nat} {β τ : zB} {rf : Nat → Option Nat} {φ : Nat → Int32} {c π : zB} {sn : Option Nat} {u v : Nat} (hu : u < 6) (hv : v ≤ 6) (hj : rf ((u + v) % 6) = none) (hn : a + 30 < n) :
    zCt l D base 4 yX1_save w_X1_save [.ref (a + 23), .ref (a + 1)] (zTo h a β τ (nI u) (nI v) rf φ c π sn) n 11 235 (zR none (zTo (setB h n (cpB bd0 β)) a β τ (if v < 6 then nI u else nI ((u + 1) % 6)) (if v < 6 then nI (v + 1) else nI v) (va_up rf ((u + v) % 6) (some n)) φ c π sn) (n + 11)) := by
  refine zCt.of G (by decide) (Nat.le_of_ble_eq_true rfl) (fun Sx V X hV hE hX => ?_)
  show V 0 [(0, .ref (a + 23)), (1, .ref (a + 1))] [] (zTo h a β τ (nI u) (nI v) rf φ c π sn) n 0 0
  have hm := Nat.mod_lt (u + v) (show 0 < 6 by decide)
  refine hV.aload_n 0 dX1_save_0 rfl ?_
  refine hV.getf (v := .int (nI u)) dX1_save_1 fl_X1_17 To_h rfl ?_
  refine hV.aload_n 0 dX1_save_4 rfl ?_
  refine hV.getf (v := .int (nI v)) dX1_save_5 fl_X1_21 To_h rfl ?_
  refine hV.iaddN (a := u) (b := v) dX1_save_8 ?_
  refine hV.bipush (v := 6) dX1_save_9 (by decide) ?_
  refine hV.irem dX1_save_11 (by decide) ?_
  refine zTop (v := nI ((u + v) % 6)) (nI_mod (by omega) 6 (by decide)) ?_
  refine hV.istore_n (ls2 := [(2, .int (nI ((u + v) % 6))), (0, .ref (a + 23)), (1, .ref (a + 1))]) dX1_save_12 (by decide) rfl ?_
  refine hV.aload_n 1 dX1_save_13 rfl ?_
  refine hV.getf (v := .ref (a + 24)) dX1_save_14 fl_X1_11 To_h rfl ?_
  refine hV.iload_n 0 dX1_save_17 rfl ?_
  refine hV.aald (j := (u + v) % 6) dX1_save_18 To_r (zix_nI (by omega)) (by omega) ?_
  rw [hj]
  show V 19 [(2, .int (nI ((u + v) % 6))), (0, .ref (a + 23)), (1, .ref (a + 1))] [.null] (zTo h a β τ (nI u) (nI v) rf φ c π sn) n 0 0
  refine hV.ifnonnullN dX1_save_19 ?_
  refine hV.aload_n 1 dX1_save_22 rfl ?_
  refine hV.getf (v := .ref (a + 24)) dX1_save_23 fl_X1_11 To_h rfl ?_
  refine hV.iload_n 0 dX1_save_26 rfl ?_
  refine hV.new (h2 := zobj (0, [.null, .null, .null, .null, .null, .null, .null, .null, .null, .null]) 0 lnB z0 n (zTo h a β τ (nI u) (nI v) rf φ c π sn)) dX1_save_27 nw_X1_9 (Nat.le_of_ble_eq_true rfl) (Nat.le_of_ble_eq_true rfl) zobj_new ?_
  refine hV.dup dX1_save_30 rfl ?_
  refine hV.callI1 (rest := [.ref n, .int (nI ((u + v) % 6)), .ref (a + 24)]) dX1_save_31 (c_X0_init G (n := 0)) my_X0_init ki_X1_24 rfl rfl (Nat.le_of_ble_eq_true rfl) (Nat.le_of_ble_eq_true rfl) (Nat.le_of_ble_eq_true rfl) (Nat.le_of_ble_eq_true rfl) (Nat.le_of_ble_eq_true rfl) (st2 := [.ref n, .int (nI ((u + v) % 6)), .ref (a + 24)]) (k2 := 11) (g2 := 235) rfl rfl rfl ?_
  refine zHeap (h2 := zTo (setB h n bd0) a β τ (nI u) (nI v) rf φ c π sn) (To_xs (by omega)) ?_
  refine hV.aast (j := (u + v) % 6) (h2 := zTo (setB h n bd0) a β τ (nI u) (nI v) (va_up rf ((u + v) % 6) (some n)) φ c π sn) dX1_save_34 To_r (To_xa zobjAt.mk (by omega)).1 (zix_nI (by omega)) (by omega) To_pr ?_
  refine hV.aload_n 1 dX1_save_35 rfl ?_
  refine hV.getf (v := .ref (a + 24)) dX1_save_36 fl_X1_11 To_h rfl ?_
  refine hV.iload_n 0 dX1_save_39 rfl ?_
  refine hV.aald (j := (u + v) % 6) dX1_save_40 To_r (zix_nI (by omega)) (by omega) ?_
  rw [(show va_up rf ((u + v) % 6) (some n) ((u + v) % 6) = some n from if_pos rfl)]
  show V 41 [(2, .int (nI ((u + v) % 6))), (0, .ref (a + 23)), (1, .ref (a + 1))] [.ref n] (zTo (setB h n bd0) a β τ (nI u) (nI v) (va_up rf ((u + v) % 6) (some n)) φ c π sn) (n + 11) 11 235
  refine hV.aload_n 2 dX1_save_41 rfl ?_
  refine zHeap (h2 := setB (setB (zTo (setB h n bd0) a β τ (nI u) (nI v) (va_up rf ((u + v) % 6) (some n)) φ c π sn) (a + 1) β) n bd0) (((To_xa zobjAt.mk (by omega)).set.symm).trans (congrArg (fun w => setB w n bd0) To_B.set.symm)) ?_
  refine hV.callV1 (rest := []) dX1_save_42 (c_X0_copyFrom G (by omega)) my_X0_copyFrom kv_X1_25 B_o rfl rfl rfl (Nat.le_of_ble_eq_true rfl) (Nat.le_of_ble_eq_true rfl) (Nat.le_of_ble_eq_true rfl) (Nat.le_of_ble_eq_true rfl) (Nat.le_of_ble_eq_true rfl) (st2 := []) (k2 := 11) (g2 := 235) rfl rfl rfl ?_
  refine zHeap (h2 := zTo (setB h n (cpB bd0 β)) a β τ (nI u) (nI v) (va_up rf ((u + v) % 6) (some n)) φ c π sn) (((congrArg (fun w => setB w n (cpB bd0 β)) To_B.set).trans (To_xs (by omega))).trans (congrArg (fun w => zTo w a β τ _ _ _ φ c π sn) zobj_zobj)) ?_
  refine hV.aload_n 1 dX1_save_45 rfl ?_
  refine hV.getf (v := .int (nI v)) dX1_save_46 fl_X1_21 To_h rfl ?_
  refine hV.bipush (v := 6) dX1_save_49 (by decide) ?_
  by_cases c51_1 : 6 ≤ v
  · refine hV.icmp_ge_t (tgt := 67) dX1_save_51 (by decide) ((nI_leI (a := 6) (b := v) (by omega) (by omega)).mpr c51_1) ?_
    refine hV.aload_n 1 dX1_save_67 rfl ?_
    refine hV.aload_n 1 dX1_save_68 rfl ?_
    refine hV.getf (v := .int (nI u)) dX1_save_69 fl_X1_17 To_h rfl ?_
    refine hV.iconst (v := 1) dX1_save_72 (by decide) ?_
    refine hV.iaddN (a := u) (b := 1) dX1_save_73 ?_
    refine hV.bipush (v := 6) dX1_save_74 (by decide) ?_
    refine hV.irem dX1_save_76 (by decide) ?_
    refine zTop (v := nI ((u + 1) % 6)) (nI_mod (by omega) 6 (by decide)) ?_
    refine hV.putf dX1_save_77 fp_X1_17 To_h (Nat.le_of_ble_eq_true rfl) rfl rfl To_ph ?_
    exact hE.2.2.2 dX1_save_80 rfl (by decide) (by decide) (zRv (by simp only [if_neg (show ¬ v < 6 by omega)]) rfl)
  · refine hV.icmp_ge_f (tgt := 67) dX1_save_51 (by decide) (fun q => absurd ((nI_leI (a := 6) (b := v) (by omega) (by omega)).mp q) c51_1) ?_
    refine hV.aload_n 1 dX1_save_54 rfl ?_
    refine hV.dup dX1_save_55 rfl ?_
    refine hV.getf (v := .int (nI v)) dX1_save_56 fl_X1_21 To_h rfl ?_
    refine hV.iconst (v := 1) dX1_save_59 (by decide) ?_
    refine hV.iaddN (a := v) (b := 1) dX1_save_60 ?_
    refine hV.putf dX1_save_61 fp_X1_21 To_h (Nat.le_of_ble_eq_true rfl) rfl rfl To_ph ?_
    refine hV.goto (tgt := 80) dX1_save_64 (by decide) ?_
    exact hE.2.2.2 dX1_save_80 rfl (by decide) (by decide) (zRv (by simp only [if_pos (show v < 6 by omega)]) rfl)

set_option maxRecDepth 100000 in
set_option maxHeartbeats 4000000 in
theorem c_X1_save_q {l : Launch} {D : va_G} {base : Nat} (G : l.stackTraces = false) {h : zH} {n : Nat} {a : Nat} {β τ : zB} {rf : Nat → Option Nat} {φ : Nat → Int32} {c π : zB} {sn : Option Nat} {u v : Nat} (hu : u < 6) (hv : v ≤ 6) {q : Nat} {x : zB} (hj : rf ((u + v) % 6) = some q) (hq : a + 30 < q) (hx : zobjAt (0, fsB q) 10 lnB x q h) :
    zCt l D base 4 yX1_save w_X1_save [.ref (a + 23), .ref (a + 1)] (zTo h a β τ (nI u) (nI v) rf φ c π sn) n 0 0 (zR none (zTo (setB h q (cpB x β)) a β τ (if v < 6 then nI u else nI ((u + 1) % 6)) (if v < 6 then nI (v + 1) else nI v) rf φ c π sn) (n)) := by
  refine zCt.of G (by decide) (Nat.le_of_ble_eq_true rfl) (fun Sx V X hV hE hX => ?_)
  show V 0 [(0, .ref (a + 23)), (1, .ref (a + 1))] [] (zTo h a β τ (nI u) (nI v) rf φ c π sn) n 0 0
  have hm := Nat.mod_lt (u + v) (show 0 < 6 by decide)
  refine hV.aload_n 0 dX1_save_0 rfl ?_
  refine hV.getf (v := .int (nI u)) dX1_save_1 fl_X1_17 To_h rfl ?_
  refine hV.aload_n 0 dX1_save_4 rfl ?_
  refine hV.getf (v := .int (nI v)) dX1_save_5 fl_X1_21 To_h rfl ?_
  refine hV.iaddN (a := u) (b := v) dX1_save_8 ?_
  refine hV.bipush (v := 6) dX1_save_9 (by decide) ?_
  refine hV.irem dX1_save_11 (by decide) ?_
  refine zTop (v := nI ((u + v) % 6)) (nI_mod (by omega) 6 (by decide)) ?_
  refine hV.istore_n (ls2 := [(2, .int (nI ((u + v) % 6))), (0, .ref (a + 23)), (1, .ref (a + 1))]) dX1_save_12 (by decide) rfl ?_
  refine hV.aload_n 1 dX1_save_13 rfl ?_
  refine hV.getf (v := .ref (a + 24)) dX1_save_14 fl_X1_11 To_h rfl ?_
  refine hV.iload_n 0 dX1_save_17 rfl ?_
  refine hV.aald (j := (u + v) % 6) dX1_save_18 To_r (zix_nI (by omega)) (by omega) ?_
  rw [hj]
  show V 19 [(2, .int (nI ((u + v) % 6))), (0, .ref (a + 23)), (1, .ref (a + 1))] [.ref q] (zTo h a β τ (nI u) (nI v) rf φ c π sn) n 0 0
  refine hV.ifnonnull (tgt := 35) dX1_save_19 (by decide) ?_
  refine hV.aload_n 1 dX1_save_35 rfl ?_
  refine hV.getf (v := .ref (a + 24)) dX1_save_36 fl_X1_11 To_h rfl ?_
  refine hV.iload_n 0 dX1_save_39 rfl ?_
  refine hV.aald (j := (u + v) % 6) dX1_save_40 To_r (zix_nI (by omega)) (by omega) ?_
  rw [hj]
  show V 41 [(2, .int (nI ((u + v) % 6))), (0, .ref (a + 23)), (1, .ref (a + 1))] [.ref q] (zTo h a β τ (nI u) (nI v) rf φ c π sn) n 0 0
  refine hV.aload_n 2 dX1_save_41 rfl ?_
  refine zHeap (h2 := setB (setB (zTo h a β τ (nI u) (nI v) rf φ c π sn) (a + 1) β) q x) (((To_xa hx (by omega)).set.symm).trans (congrArg (fun w => setB w q x) To_B.set.symm)) ?_
  refine hV.callV1 (rest := []) dX1_save_42 (c_X0_copyFrom G (by omega)) my_X0_copyFrom kv_X1_25 B_o rfl rfl rfl (Nat.le_of_ble_eq_true rfl) (Nat.le_of_ble_eq_true rfl) (Nat.le_of_ble_eq_true rfl) (Nat.le_of_ble_eq_true rfl) (Nat.le_of_ble_eq_true rfl) (st2 := []) (k2 := 0) (g2 := 0) rfl rfl rfl ?_
  refine zHeap (h2 := zTo (setB h q (cpB x β)) a β τ (nI u) (nI v) rf φ c π sn) ((congrArg (fun w => setB w q (cpB x β)) To_B.set).trans (To_xs (by omega))) ?_
  refine hV.aload_n 1 dX1_save_45 rfl ?_
  refine hV.getf (v := .int (nI v)) dX1_save_46 fl_X1_21 To_h rfl ?_
  refine hV.bipush (v := 6) dX1_save_49 (by decide) ?_
  by_cases c51_1 : 6 ≤ v
  · refine hV.icmp_ge_t (tgt := 67) dX1_save_51 (by decide) ((nI_leI (a := 6) (b := v) (by omega) (by omega)).mpr c51_1) ?_
    refine hV.aload_n 1 dX1_save_67 rfl ?_
    refine hV.aload_n 1 dX1_save_68 rfl ?_
    refine hV.getf (v := .int (nI u)) dX1_save_69 fl_X1_17 To_h rfl ?_
    refine hV.iconst (v := 1) dX1_save_72 (by decide) ?_
    refine hV.iaddN (a := u) (b := 1) dX1_save_73 ?_
    refine hV.bipush (v := 6) dX1_save_74 (by decide) ?_
    refine hV.irem dX1_save_76 (by decide) ?_
    refine zTop (v := nI ((u + 1) % 6)) (nI_mod (by omega) 6 (by decide)) ?_
    refine hV.putf dX1_save_77 fp_X1_17 To_h (Nat.le_of_ble_eq_true rfl) rfl rfl To_ph ?_
    exact hE.2.2.2 dX1_save_80 rfl (by decide) (by decide) (zRv (by simp only [if_neg (show ¬ v < 6 by omega)]) rfl)
  · refine hV.icmp_ge_f (tgt := 67) dX1_save_51 (by decide) (fun q => absurd ((nI_leI (a := 6) (b := v) (by omega) (by omega)).mp q) c51_1) ?_
    refine hV.aload_n 1 dX1_save_54 rfl ?_
    refine hV.dup dX1_save_55 rfl ?_
    refine hV.getf (v := .int (nI v)) dX1_save_56 fl_X1_21 To_h rfl ?_
    refine hV.iconst (v := 1) dX1_save_59 (by decide) ?_
    refine hV.iaddN (a := v) (b := 1) dX1_save_60 ?_
    refine hV.putf dX1_save_61 fp_X1_21 To_h (Nat.le_of_ble_eq_true rfl) rfl rfl To_ph ?_
    refine hV.goto (tgt := 80) dX1_save_64 (by decide) ?_
    exact hE.2.2.2 dX1_save_80 rfl (by decide) (by decide) (zRv (by simp only [if_pos (show v < 6 by omega)]) rfl)

