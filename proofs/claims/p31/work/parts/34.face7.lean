/-! A new PachinkoReels -/
def zRg : zC := some (.inl (6, .inr (.inr (.inr (.inr (fun _ => none))))))
theorem hi_o {o : Nat × List Value} {b : Nat} {h : zH} : zput (zobj o 0 lnB z0 b h) (b + 1) zRg b = some (.inr o) := (if_neg (by omega)).trans zobj_o
theorem lt_put {h h2 : zH} {a b : Nat} {c d : zC} (hab : a < b) (e : zput h a c = h2) : zput (zput h b d) a c = zput h2 b d := by
  subst e
  funext q
  unfold zput
  by_cases h1 : q = a
  · rw [if_pos h1, if_neg (by omega), if_pos h1]
  · rw [if_neg h1, if_neg h1]
theorem lt_obj {h h2 : zH} {a b k : Nat} {o : Nat × List Value} {ln : Nat → Nat} {β : zB} {c : zC} (hab : a < b) (e : zput h a c = h2) : zput (zobj o k ln β b h) a c = zobj o k ln β b h2 := by
  subst e
  funext q
  by_cases h1 : q = a
  · rw [h1]
    exact (if_pos rfl).trans (((zobj_out (Or.inl hab)).trans (if_pos rfl)).symm)
  · exact (if_neg h1).trans (zobj_cg (if_neg h1).symm)
theorem zobj_in {o : Nat × List Value} {k : Nat} {ln : Nat → Nat} {β : zB} {b q : Nat} {h h2 : zH} (hq : b ≤ q ∧ q ≤ b + k) : zobj o k ln β b h q = zobj o k ln β b h2 q := by
  unfold zobj
  by_cases h1 : q = b
  · rw [if_pos h1, if_pos h1]
  · rw [if_neg h1, if_neg h1, if_pos (by omega), if_pos (by omega)]
theorem hi_po {o o2 : Nat × List Value} {b : Nat} {h : zH} : zput (zput (zobj o 0 lnB z0 b h) (b + 1) zRg) b (some (.inr o2)) = zput (zobj o2 0 lnB z0 b h) (b + 1) zRg := lt_put (by omega) zobj_po

set_option maxRecDepth 100000 in
set_option maxHeartbeats 1000000 in
theorem c_X1_init {l : Launch} {D : va_G} {base : Nat} (G : l.stackTraces = false) {h : zH} {n : Nat} {b : Nat} :
    zCt l D base 1 yX1_init w_X1_init [.ref b] (zobj (1, [.null, .int 0, .int 0]) 0 lnB z0 b h) (b + 1) 1 6 (zR none (zput (zobj (1, [.ref (b + 1), .int 0, .int 0]) 0 lnB z0 b h) (b + 1) zRg) (b + 2)) := by
  refine zCt.of G (by decide) (Nat.le_of_ble_eq_true rfl) (fun Sx V X hV hE hX => ?_)
  show V 0 [(0, .ref b)] [] (zobj (1, [.null, .int 0, .int 0]) 0 lnB z0 b h) (b + 1) 0 0
  refine hV.aload_n 0 dX1_init_0 rfl ?_
  refine hV.objInit dX1_init_1 ko_X1_3 (by decide) (by decide) (by decide) ?_
  refine hV.aload_n 0 dX1_init_4 rfl ?_
  refine hV.bipush (v := 6) dX1_init_5 (by decide) ?_
  refine hV.newq (N := 6) (h2 := zput (zobj (1, [.null, .int 0, .int 0]) 0 lnB z0 b h) (b + 1) zRg) dX1_init_7 cl_X1_9 ⟨by decide, by decide⟩ (by decide) (Nat.le_of_ble_eq_true rfl) (Nat.le_of_ble_eq_true rfl) rfl ?_
  refine hV.putF (h2 := zput (zobj (1, [.ref (b + 1), .int 0, .int 0]) 0 lnB z0 b h) (b + 1) zRg) dX1_init_10 rfl fp_X1_11 hi_o (Nat.le_of_ble_eq_true rfl) rfl rfl hi_po ?_
  refine hV.aload_n 0 dX1_init_13 rfl ?_
  refine hV.iconst (v := 0) dX1_init_14 (by decide) ?_
  refine hV.putf (h2 := zput (zobj (1, [.ref (b + 1), .int 0, .int 0]) 0 lnB z0 b h) (b + 1) zRg) dX1_init_15 fp_X1_17 hi_o (Nat.le_of_ble_eq_true rfl) rfl rfl hi_po ?_
  refine hV.aload_n 0 dX1_init_18 rfl ?_
  refine hV.iconst (v := 0) dX1_init_19 (by decide) ?_
  refine hV.putf (h2 := zput (zobj (1, [.ref (b + 1), .int 0, .int 0]) 0 lnB z0 b h) (b + 1) zRg) dX1_init_20 fp_X1_21 hi_o (Nat.le_of_ble_eq_true rfl) rfl rfl hi_po ?_
  exact hE.2.2.2 dX1_init_23 rfl (by decide) (by decide) (zRv rfl rfl)

theorem To_new {h : zH} {a : Nat} {φ : Nat → Int32} : setP (setT (zput (zobj (1, [.ref (a + 24), .int 0, .int 0]) 0 lnB z0 (a + 23) (setB (setB (zobj (4, [.ref (a + 1), .ref (a + 12), .ref (a + 23), .ref (a + 25), .ref (a + 27), .null]) 0 lnB z0 a h) (a + 1) bd0) (a + 12) bd0)) (a + 24) zRg) (a + 25) φ z0) (a + 27) z0 = zTo h a bd0 bd0 0 0 (fun _ => none) φ z0 z0 none := by
  funext q
  by_cases h1 : a ≤ q ∧ q ≤ a + 30
  · by_cases h2 : q = a
    · subst h2
      exact ((zobj_out (by omega)).trans ((zobj_out (by omega)).trans ((if_neg (by omega)).trans ((zobj_out (by omega)).trans ((zobj_out (by omega)).trans ((zobj_out (by omega)).trans zobj_o)))))).trans To_o.symm
    · by_cases h3 : q = a + 23
      · subst h3
        exact ((zobj_out (by omega)).trans ((zobj_out (by omega)).trans ((if_neg (by omega)).trans zobj_o))).trans To_h.symm
      · by_cases h4 : q = a + 24
        · subst h4
          exact ((zobj_out (by omega)).trans ((zobj_out (by omega)).trans (if_pos rfl))).trans To_r.symm
        · rw [To_in h2 h3 h4]
          by_cases r1 : q ≤ a + 11
          · exact (zobj_out (by omega)).trans ((zobj_out (by omega)).trans ((if_neg (by omega)).trans ((zobj_out (by omega)).trans ((zobj_out (by omega)).trans (zobj_in (by omega))))))
          · by_cases r2 : q ≤ a + 22
            · exact (zobj_out (by omega)).trans ((zobj_out (by omega)).trans ((if_neg (by omega)).trans ((zobj_out (by omega)).trans ((zobj_in (by omega)).trans (zobj_out (by omega)).symm))))
            · by_cases r3 : q ≤ a + 26
              · exact (zobj_out (by omega)).trans ((zobj_in (by omega)).trans ((zobj_out (by omega)).trans (zobj_out (by omega))).symm)
              · exact (zobj_in (by omega)).trans ((zobj_out (by omega)).trans ((zobj_out (by omega)).trans (zobj_out (by omega)))).symm
  · have e : zTo h a bd0 bd0 0 0 (fun _ => none) φ z0 z0 none q = h q := To_out (by omega)
    rw [e]
    exact (zobj_out (by omega)).trans ((zobj_out (by omega)).trans ((if_neg (by omega)).trans ((zobj_out (by omega)).trans ((zobj_out (by omega)).trans ((zobj_out (by omega)).trans (zobj_out (by omega)))))))

set_option maxRecDepth 100000 in
set_option maxHeartbeats 1000000 in
theorem c_X4_init {l : Launch} {D : va_G} {base : Nat} (G : l.stackTraces = false) {h : zH} {n : Nat} {a : Nat}  :
    zCt l D base 3 yX4_init w_X4_init [.ref a] (zobj (4, [.null, .null, .null, .null, .null, .null]) 0 lnB z0 a h) (a + 1) 30 600 (zR none (zTo h a bd0 bd0 0 0 (fun _ => none) (va_up (fun _ => 0) 0 0) z0 z0 none) (a + 31)) := by
  refine zCt.of G (by decide) (Nat.le_of_ble_eq_true rfl) (fun Sx V X hV hE hX => ?_)
  show V 0 [(0, .ref a)] [] (zobj (4, [.null, .null, .null, .null, .null, .null]) 0 lnB z0 a h) (a + 1) 0 0
  refine hV.aload_n 0 dX4_init_0 rfl ?_
  refine hV.objInit dX4_init_1 ko_X4_3 (by decide) (by decide) (by decide) ?_
  refine hV.aload_n 0 dX4_init_4 rfl ?_
  refine hV.new (h2 := zobj (0, [.null, .null, .null, .null, .null, .null, .null, .null, .null, .null]) 0 lnB z0 (a + 1) (zobj (4, [.null, .null, .null, .null, .null, .null]) 0 lnB z0 a h)) dX4_init_5 nw_X4_9 (Nat.le_of_ble_eq_true rfl) (Nat.le_of_ble_eq_true rfl) zobj_new ?_
  refine hV.dup dX4_init_8 rfl ?_
  refine hV.callI1 (rest := [.ref (a + 1), .ref a]) dX4_init_9 (c_X0_init G (n := 0)) my_X0_init ki_X4_11 rfl rfl (Nat.le_of_ble_eq_true rfl) (Nat.le_of_ble_eq_true rfl) (Nat.le_of_ble_eq_true rfl) (Nat.le_of_ble_eq_true rfl) (Nat.le_of_ble_eq_true rfl) (st2 := [.ref (a + 1), .ref a]) (k2 := 11) (g2 := 235) rfl rfl rfl ?_
  refine zHeap (h2 := setB (zobj (4, [.null, .null, .null, .null, .null, .null]) 0 lnB z0 a h) (a + 1) bd0) rfl ?_
  refine hV.putF (h2 := setB (zobj (4, [.ref (a + 1), .null, .null, .null, .null, .null]) 0 lnB z0 a h) (a + 1) bd0) dX4_init_12 rfl fp_X4_12 ((zobj_out (by omega)).trans zobj_o) (Nat.le_of_ble_eq_true rfl) rfl rfl (lt_obj (by omega) zobj_po) ?_
  refine hV.aload_n 0 dX4_init_15 rfl ?_
  refine hV.new (h2 := zobj (0, [.null, .null, .null, .null, .null, .null, .null, .null, .null, .null]) 0 lnB z0 (a + 12) (setB (zobj (4, [.ref (a + 1), .null, .null, .null, .null, .null]) 0 lnB z0 a h) (a + 1) bd0)) dX4_init_16 nw_X4_9 (Nat.le_of_ble_eq_true rfl) (Nat.le_of_ble_eq_true rfl) zobj_new ?_
  refine hV.dup dX4_init_19 rfl ?_
  refine hV.callI1 (rest := [.ref (a + 12), .ref a]) dX4_init_20 (c_X0_init G (n := 0)) my_X0_init ki_X4_11 rfl rfl (Nat.le_of_ble_eq_true rfl) (Nat.le_of_ble_eq_true rfl) (Nat.le_of_ble_eq_true rfl) (Nat.le_of_ble_eq_true rfl) (Nat.le_of_ble_eq_true rfl) (st2 := [.ref (a + 12), .ref a]) (k2 := 22) (g2 := 470) rfl rfl rfl ?_
  refine zHeap (h2 := setB (setB (zobj (4, [.ref (a + 1), .null, .null, .null, .null, .null]) 0 lnB z0 a h) (a + 1) bd0) (a + 12) bd0) rfl ?_
  refine hV.putF (h2 := setB (setB (zobj (4, [.ref (a + 1), .ref (a + 12), .null, .null, .null, .null]) 0 lnB z0 a h) (a + 1) bd0) (a + 12) bd0) dX4_init_23 rfl fp_X4_16 ((zobj_out (by omega)).trans ((zobj_out (by omega)).trans zobj_o)) (Nat.le_of_ble_eq_true rfl) rfl rfl (lt_obj (by omega) (lt_obj (by omega) zobj_po)) ?_
  refine hV.aload_n 0 dX4_init_26 rfl ?_
  refine hV.new (h2 := zobj (1, [.null, .int 0, .int 0]) 0 lnB z0 (a + 23) (setB (setB (zobj (4, [.ref (a + 1), .ref (a + 12), .null, .null, .null, .null]) 0 lnB z0 a h) (a + 1) bd0) (a + 12) bd0)) dX4_init_27 nw_X4_19 (Nat.le_of_ble_eq_true rfl) (Nat.le_of_ble_eq_true rfl) zobj_new ?_
  refine hV.dup dX4_init_30 rfl ?_
  refine hV.callIN1 (rest := [.ref (a + 23), .ref a]) dX4_init_31 (c_X1_init G (n := 0)) my_X1_init ki_X4_21 rfl rfl (Nat.le_of_ble_eq_true rfl) (Nat.le_of_ble_eq_true rfl) (Nat.le_of_ble_eq_true rfl) (Nat.le_of_ble_eq_true rfl) (Nat.le_of_ble_eq_true rfl) (st2 := [.ref (a + 23), .ref a]) (k2 := 24) (g2 := 479) rfl rfl rfl ?_
  refine zHeap (h2 := zput (zobj (1, [.ref (a + 23 + 1), .int 0, .int 0]) 0 lnB z0 (a + 23) (setB (setB (zobj (4, [.ref (a + 1), .ref (a + 12), .null, .null, .null, .null]) 0 lnB z0 a h) (a + 1) bd0) (a + 12) bd0)) (a + 23 + 1) zRg) rfl ?_
  refine hV.putF (h2 := zput (zobj (1, [.ref (a + 23 + 1), .int 0, .int 0]) 0 lnB z0 (a + 23) (setB (setB (zobj (4, [.ref (a + 1), .ref (a + 12), .ref (a + 23), .null, .null, .null]) 0 lnB z0 a h) (a + 1) bd0) (a + 12) bd0)) (a + 23 + 1) zRg) dX4_init_34 rfl fp_X4_22 ((zput_ne (by omega)).trans ((zobj_out (by omega)).trans ((zobj_out (by omega)).trans ((zobj_out (by omega)).trans zobj_o)))) (Nat.le_of_ble_eq_true rfl) rfl rfl (lt_put (by omega) (lt_obj (by omega) (lt_obj (by omega) (lt_obj (by omega) zobj_po)))) ?_
  refine hV.aload_n 0 dX4_init_37 rfl ?_
  refine hV.new (h2 := zobj (3, [.null, .int 0]) 0 lnT z0 (a + 25) (zput (zobj (1, [.ref (a + 23 + 1), .int 0, .int 0]) 0 lnB z0 (a + 23) (setB (setB (zobj (4, [.ref (a + 1), .ref (a + 12), .ref (a + 23), .null, .null, .null]) 0 lnB z0 a h) (a + 1) bd0) (a + 12) bd0)) (a + 23 + 1) zRg)) dX4_init_38 nw_X4_26 (Nat.le_of_ble_eq_true rfl) (Nat.le_of_ble_eq_true rfl) zobj_new ?_
  refine hV.dup dX4_init_41 rfl ?_
  refine hV.callIN1 (rest := [.ref (a + 25), .ref a]) dX4_init_42 (c_X3_init G (n := 0)) my_X3_init ki_X4_28 rfl rfl (Nat.le_of_ble_eq_true rfl) (Nat.le_of_ble_eq_true rfl) (Nat.le_of_ble_eq_true rfl) (Nat.le_of_ble_eq_true rfl) (Nat.le_of_ble_eq_true rfl) (st2 := [.ref (a + 25), .ref a]) (k2 := 26) (g2 := 541) rfl rfl rfl ?_
  refine zHeap (h2 := setT (zput (zobj (1, [.ref (a + 23 + 1), .int 0, .int 0]) 0 lnB z0 (a + 23) (setB (setB (zobj (4, [.ref (a + 1), .ref (a + 12), .ref (a + 23), .null, .null, .null]) 0 lnB z0 a h) (a + 1) bd0) (a + 12) bd0)) (a + 23 + 1) zRg) (a + 25) (va_up (fun _ => 0) 0 0) z0) rfl ?_
  refine hV.putF (h2 := setT (zput (zobj (1, [.ref (a + 23 + 1), .int 0, .int 0]) 0 lnB z0 (a + 23) (setB (setB (zobj (4, [.ref (a + 1), .ref (a + 12), .ref (a + 23), .ref (a + 25), .null, .null]) 0 lnB z0 a h) (a + 1) bd0) (a + 12) bd0)) (a + 23 + 1) zRg) (a + 25) (va_up (fun _ => 0) 0 0) z0) dX4_init_45 rfl fp_X4_29 ((zobj_out (by omega)).trans ((zput_ne (by omega)).trans ((zobj_out (by omega)).trans ((zobj_out (by omega)).trans ((zobj_out (by omega)).trans zobj_o))))) (Nat.le_of_ble_eq_true rfl) rfl rfl (lt_obj (by omega) (lt_put (by omega) (lt_obj (by omega) (lt_obj (by omega) (lt_obj (by omega) zobj_po))))) ?_
  refine hV.aload_n 0 dX4_init_48 rfl ?_
  refine hV.new (h2 := zobj (2, [.null, .null, .null]) 0 lnP z0 (a + 27) (setT (zput (zobj (1, [.ref (a + 23 + 1), .int 0, .int 0]) 0 lnB z0 (a + 23) (setB (setB (zobj (4, [.ref (a + 1), .ref (a + 12), .ref (a + 23), .ref (a + 25), .null, .null]) 0 lnB z0 a h) (a + 1) bd0) (a + 12) bd0)) (a + 23 + 1) zRg) (a + 25) (va_up (fun _ => 0) 0 0) z0)) dX4_init_49 nw_X4_33 (Nat.le_of_ble_eq_true rfl) (Nat.le_of_ble_eq_true rfl) zobj_new ?_
  refine hV.dup dX4_init_52 rfl ?_
  refine hV.callIN1 (rest := [.ref (a + 27), .ref a]) dX4_init_53 (c_X2_init G (n := 0)) my_X2_init ki_X4_35 rfl rfl (Nat.le_of_ble_eq_true rfl) (Nat.le_of_ble_eq_true rfl) (Nat.le_of_ble_eq_true rfl) (Nat.le_of_ble_eq_true rfl) (Nat.le_of_ble_eq_true rfl) (st2 := [.ref (a + 27), .ref a]) (k2 := 30) (g2 := 565) rfl rfl rfl ?_
  refine zHeap (h2 := setP (setT (zput (zobj (1, [.ref (a + 23 + 1), .int 0, .int 0]) 0 lnB z0 (a + 23) (setB (setB (zobj (4, [.ref (a + 1), .ref (a + 12), .ref (a + 23), .ref (a + 25), .null, .null]) 0 lnB z0 a h) (a + 1) bd0) (a + 12) bd0)) (a + 23 + 1) zRg) (a + 25) (va_up (fun _ => 0) 0 0) z0) (a + 27) z0) rfl ?_
  refine hV.putF (h2 := setP (setT (zput (zobj (1, [.ref (a + 23 + 1), .int 0, .int 0]) 0 lnB z0 (a + 23) (setB (setB (zobj (4, [.ref (a + 1), .ref (a + 12), .ref (a + 23), .ref (a + 25), .ref (a + 27), .null]) 0 lnB z0 a h) (a + 1) bd0) (a + 12) bd0)) (a + 23 + 1) zRg) (a + 25) (va_up (fun _ => 0) 0 0) z0) (a + 27) z0) dX4_init_56 rfl fp_X4_36 ((zobj_out (by omega)).trans ((zobj_out (by omega)).trans ((zput_ne (by omega)).trans ((zobj_out (by omega)).trans ((zobj_out (by omega)).trans ((zobj_out (by omega)).trans zobj_o)))))) (Nat.le_of_ble_eq_true rfl) rfl rfl (lt_obj (by omega) (lt_obj (by omega) (lt_put (by omega) (lt_obj (by omega) (lt_obj (by omega) (lt_obj (by omega) zobj_po)))))) ?_
  refine hV.aload_n 0 dX4_init_59 rfl ?_
  refine hV.null dX4_init_60 ?_
  refine hV.putf (h2 := setP (setT (zput (zobj (1, [.ref (a + 23 + 1), .int 0, .int 0]) 0 lnB z0 (a + 23) (setB (setB (zobj (4, [.ref (a + 1), .ref (a + 12), .ref (a + 23), .ref (a + 25), .ref (a + 27), .null]) 0 lnB z0 a h) (a + 1) bd0) (a + 12) bd0)) (a + 23 + 1) zRg) (a + 25) (va_up (fun _ => 0) 0 0) z0) (a + 27) z0) dX4_init_61 fp_X4_40 ((zobj_out (by omega)).trans ((zobj_out (by omega)).trans ((zput_ne (by omega)).trans ((zobj_out (by omega)).trans ((zobj_out (by omega)).trans ((zobj_out (by omega)).trans zobj_o)))))) (Nat.le_of_ble_eq_true rfl) rfl rfl (lt_obj (by omega) (lt_obj (by omega) (lt_put (by omega) (lt_obj (by omega) (lt_obj (by omega) (lt_obj (by omega) zobj_po)))))) ?_
  exact hE.2.2.2 dX4_init_64 rfl (by decide) (by decide) (zRv To_new rfl)

