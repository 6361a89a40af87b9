set_option maxRecDepth 100000 in
set_option maxHeartbeats 4000000 in
theorem c_X0_addBentPin {l : Launch} {D : va_G} {base : Nat} (G : l.stackTraces = false) {h : zH} {n : Nat} {b : Nat} {β : zB} {m : Nat} {v : Int32} (hm : β 0 16 = nI m) (hm2 : m < 56) :
    zCt l D base 1 yX0_addBentPin w_X0_addBentPin [.ref b, .int v] (setB h b β) n 0 0 (zR none (setB h b (addBent β m v)) n) := by
  refine zCt.of G (by decide) (Nat.le_of_ble_eq_true rfl) (fun Sx V X hV hE hX => ?_)
  show V 0 [(0, .ref b), (1, .int v)] [] (setB h b β) n 0 0
  refine hV.aload_n 0 dX0_addBentPin_0 rfl ?_
  refine hV.getf dX0_addBentPin_1 fl_X0_9 B_o rfl ?_
  refine hV.bipush (v := 16) dX0_addBentPin_4 (by decide) ?_
  refine hV.iald (j := 16) dX0_addBentPin_6 B_a0 ⟨by decide, by decide⟩ (by decide) ?_
  refine zTop (v := nI m) hm ?_
  refine hV.istore_n (ls2 := [(2, .int (nI m)), (0, .ref b), (1, .int v)]) dX0_addBentPin_7 (by decide) rfl ?_
  refine hV.iload_n 0 dX0_addBentPin_8 rfl ?_
  refine hV.bipush (v := 56) dX0_addBentPin_9 (by decide) ?_
  refine hV.icmp_ge_f (tgt := 31) dX0_addBentPin_11 (by decide) (fun q => absurd ((nI_leI (a := 56) (b := m) (by omega) (by omega)).mp q) (by omega)) ?_
  refine hV.aload_n 1 dX0_addBentPin_14 rfl ?_
  refine hV.getf dX0_addBentPin_15 fl_X0_18 B_o rfl ?_
  refine hV.iload_n 0 dX0_addBentPin_18 rfl ?_
  refine hV.iload_n 2 dX0_addBentPin_19 rfl ?_
  refine hV.iast (j := m) dX0_addBentPin_20 B_a2 (zix_nI (by omega)) (by omega) B_p2 ?_
  refine hV.aload_n 1 dX0_addBentPin_21 rfl ?_
  refine hV.getf dX0_addBentPin_22 fl_X0_9 B_o rfl ?_
  refine hV.bipush (v := 16) dX0_addBentPin_25 (by decide) ?_
  refine hV.iload_n 0 dX0_addBentPin_27 rfl ?_
  refine hV.iconst (v := 1) dX0_addBentPin_28 (by decide) ?_
  refine hV.iaddN (a := m) (b := 1) dX0_addBentPin_29 ?_
  refine hV.iast (j := 16) dX0_addBentPin_30 B_a0 ⟨by decide, by decide⟩ (by decide) B_p0 ?_
  exact hE.2.2.2 dX0_addBentPin_31 rfl (by decide) (by decide) (zRv rfl rfl)

set_option maxRecDepth 100000 in
set_option maxHeartbeats 4000000 in
theorem c_X0_removeBentPin {l : Launch} {D : va_G} {base : Nat} (G : l.stackTraces = false) {h : zH} {n : Nat} {b : Nat} {β : zB} {m : Nat} {v : Int32} (hm : β 0 16 = nI m) (hm2 : m ≤ 56) :
    zCt l D base 1 yX0_removeBentPin w_X0_removeBentPin [.ref b, .int v] (setB h b β) n 0 0 (zR none (setB h b (remBent β m v)) n) := by
  refine zCt.of G (by decide) (Nat.le_of_ble_eq_true rfl) (fun Sx V X hV hE hX => ?_)
  show V 0 [(0, .ref b), (1, .int v)] [] (setB h b β) n 0 0
  refine zHeap (h2 := setB h b (sa β 2 (β 2))) (by rw [sa_self]) ?_
  refine hV.iconst (v := 0) dX0_removeBentPin_0 (by decide) ?_
  refine hV.istore_n (ls2 := [(2, .int 0), (0, .ref b), (1, .int v)]) dX0_removeBentPin_1 (by decide) rfl ?_
  refine hV.iconst (v := 0) dX0_removeBentPin_2 (by decide) ?_
  refine hV.istore_n (ls2 := [(3, .int 0), (2, .int 0), (0, .ref b), (1, .int v)]) dX0_removeBentPin_3 (by decide) rfl ?_
  have loop : ∀ (k j : Nat) (f : Nat → Int32) (s : Nat), j + k = m → ((f, s) = rbl (β 2) v j) → (s ≤ j) → V 4 [(3, .int (nI j)), (2, .int (nI s)), (0, .ref b), (1, .int v)] [] (setB h b (sa β 2 f)) n 0 0 := by
    intro k
    induction k with
    | zero =>
      intro j f s hj he hs
      refine hV.iload_n 0 dX0_removeBentPin_4 rfl ?_
      refine hV.aload_n 2 dX0_removeBentPin_5 rfl ?_
      refine hV.getf dX0_removeBentPin_6 fl_X0_9 B_o rfl ?_
      refine hV.bipush (v := 16) dX0_removeBentPin_9 (by decide) ?_
      refine hV.iald (j := 16) dX0_removeBentPin_11 B_a0 ⟨by decide, by decide⟩ (by decide) ?_
      refine zTop (v := nI m) hm ?_
      refine hV.icmp_ge_t (tgt := 46) dX0_removeBentPin_12 (by decide) ((nI_leI (a := m) (b := j) (by omega) (by omega)).mpr (by omega)) ?_
      refine hV.aload_n 2 dX0_removeBentPin_46 rfl ?_
      refine hV.getf dX0_removeBentPin_47 fl_X0_9 B_o rfl ?_
      refine hV.bipush (v := 16) dX0_removeBentPin_50 (by decide) ?_
      refine hV.iload_n 1 dX0_removeBentPin_52 rfl ?_
      refine hV.iast (j := 16) dX0_removeBentPin_53 B_a0 ⟨by decide, by decide⟩ (by decide) B_p0 ?_
      exact hE.2.2.2 dX0_removeBentPin_54 rfl (by decide) (by decide) (zRv (by unfold remBent; have e : j = m := (by omega); subst e; rw [← he]) rfl)
    | succ k ih =>
      intro j f s hj he hs
      refine hV.iload_n 0 dX0_removeBentPin_4 rfl ?_
      refine hV.aload_n 2 dX0_removeBentPin_5 rfl ?_
      refine hV.getf dX0_removeBentPin_6 fl_X0_9 B_o rfl ?_
      refine hV.bipush (v := 16) dX0_removeBentPin_9 (by decide) ?_
      refine hV.iald (j := 16) dX0_removeBentPin_11 B_a0 ⟨by decide, by decide⟩ (by decide) ?_
      refine zTop (v := nI m) hm ?_
      refine hV.icmp_ge_f (tgt := 46) dX0_removeBentPin_12 (by decide) (fun q => absurd ((nI_leI (a := m) (b := j) (by omega) (by omega)).mp q) (by omega)) ?_
      refine hV.aload_n 2 dX0_removeBentPin_15 rfl ?_
      refine hV.getf dX0_removeBentPin_16 fl_X0_18 B_o rfl ?_
      refine hV.iload_n 0 dX0_removeBentPin_19 rfl ?_
      refine hV.iald (j := j) dX0_removeBentPin_20 B_a2 (zix_nI (by omega)) (by omega) ?_
      refine zTop (v := f j) rfl ?_
      refine hV.iload_n 3 dX0_removeBentPin_21 rfl ?_
      by_cases c22_1 : (f j) = v
      · refine hV.icmp_eq_t (tgt := 40) dX0_removeBentPin_22 (by decide) c22_1 ?_
        refine hV.iinc 0 (v := nI (j + 1)) (ls2 := [(3, .int (nI (j + 1))), (2, .int (nI s)), (0, .ref b), (1, .int v)]) dX0_removeBentPin_40 rfl (nI_1 _) (by decide) rfl ?_
        refine hV.goto (tgt := 4) dX0_removeBentPin_43 (by decide) ?_
        exact ih (j + 1) _ _ (by omega) (by rw [rbl, ← he]; simp only []; rw [if_pos c22_1]) (by omega)
      · refine hV.icmp_eq_f (tgt := 40) dX0_removeBentPin_22 (by decide) c22_1 ?_
        refine hV.aload_n 2 dX0_removeBentPin_25 rfl ?_
        refine hV.getf dX0_removeBentPin_26 fl_X0_18 B_o rfl ?_
        refine hV.iload_n 1 dX0_removeBentPin_29 rfl ?_
        refine hV.aload_n 2 dX0_removeBentPin_30 rfl ?_
        refine hV.getf dX0_removeBentPin_31 fl_X0_18 B_o rfl ?_
        refine hV.iload_n 0 dX0_removeBentPin_34 rfl ?_
        refine hV.iald (j := j) dX0_removeBentPin_35 B_a2 (zix_nI (by omega)) (by omega) ?_
        refine zTop (v := f j) rfl ?_
        refine hV.iast (j := s) dX0_removeBentPin_36 B_a2 (zix_nI (by omega)) (by omega) B_p2 ?_
        refine zHeap (h2 := setB h b (sa β 2 (va_up f s (f j)))) (by rw [up2_sa, sa_sa]; rfl) ?_
        refine hV.iinc 1 (v := nI (s + 1)) (ls2 := [(2, .int (nI (s + 1))), (3, .int (nI j)), (0, .ref b), (1, .int v)]) dX0_removeBentPin_37 rfl (nI_1 _) (by decide) rfl ?_
        refine hV.iinc 1 (v := nI (j + 1)) (ls2 := [(3, .int (nI (j + 1))), (2, .int (nI (s + 1))), (0, .ref b), (1, .int v)]) dX0_removeBentPin_40 rfl (nI_1 _) (by decide) rfl ?_
        refine hV.goto (tgt := 4) dX0_removeBentPin_43 (by decide) ?_
        exact ih (j + 1) _ _ (by omega) (by rw [rbl, ← he]; simp only []; rw [if_neg c22_1]) (by omega)
  exact loop (m) 0 (β 2) 0 (by omega) rfl (by omega)

set_option maxRecDepth 100000 in
set_option maxHeartbeats 4000000 in
theorem c_X0_bendPin {l : Launch} {D : va_G} {base : Nat} (G : l.stackTraces = false) {h : zH} {n : Nat} {b : Nat} {β : zB} {i m : Nat} {t : Int32} (hi : i < 56) (hm : β 0 16 = nI m) (hm3 : m ≤ 56) (hm2 : β 1 i = 0 → m < 56) :
    zCt l D base 2 yX0_bendPin w_X0_bendPin [.ref b, .int (nI i), .int t] (setB h b β) n 0 0 (zR (some (.int (β 1 i))) (setB h b (bendB β i m t)) n) := by
  refine zCt.of G (by decide) (Nat.le_of_ble_eq_true rfl) (fun Sx V X hV hE hX => ?_)
  show V 0 [(0, .ref b), (1, .int (nI i)), (2, .int t)] [] (setB h b β) n 0 0
  refine hV.aload_n 0 dX0_bendPin_0 rfl ?_
  refine hV.getf dX0_bendPin_1 fl_X0_15 B_o rfl ?_
  refine hV.iload_n 1 dX0_bendPin_4 rfl ?_
  refine hV.iald (j := i) dX0_bendPin_5 B_a1 (zix_nI (by omega)) (by omega) ?_
  refine hV.istore_n (ls2 := [(3, .int (β 1 i)), (0, .ref b), (1, .int (nI i)), (2, .int t)]) dX0_bendPin_6 (by decide) rfl ?_
  refine hV.aload_n 1 dX0_bendPin_7 rfl ?_
  refine hV.getf dX0_bendPin_8 fl_X0_15 B_o rfl ?_
  refine hV.iload_n 2 dX0_bendPin_11 rfl ?_
  refine hV.iload_n 3 dX0_bendPin_12 rfl ?_
  refine hV.iast (j := i) dX0_bendPin_13 B_a1 (zix_nI (by omega)) (by omega) B_p1 ?_
  refine hV.iload_n 0 dX0_bendPin_14 rfl ?_
  by_cases c15_1 : (β 1 i) = 0
  · refine hV.if_ne_f (tgt := 30) dX0_bendPin_15 (by decide) c15_1 ?_
    refine hV.iload_n 3 dX0_bendPin_18 rfl ?_
    by_cases c19_2 : t = 0
    · refine hV.if_eq_t (tgt := 30) dX0_bendPin_19 (by decide) c19_2 ?_
      refine hV.iload_n 0 dX0_bendPin_30 rfl ?_
      refine hV.if_eq_t (tgt := 43) dX0_bendPin_31 (by decide) c15_1 ?_
      refine hV.iload_n 0 dX0_bendPin_43 rfl ?_
      exact hE.1 dX0_bendPin_44 rfl rfl (by decide) (by decide) (zRi rfl (by simp [bendB, c15_1, c19_2]) rfl)
    · refine hV.if_eq_f (tgt := 30) dX0_bendPin_19 (by decide) c19_2 ?_
      refine hV.aload_n 1 dX0_bendPin_22 rfl ?_
      refine hV.iload_n 2 dX0_bendPin_23 rfl ?_
      refine hV.callV1 (rest := []) dX0_bendPin_24 (c_X0_addBentPin G (m := m) hm (hm2 (by assumption))) my_X0_addBentPin kv_X0_60 B_o rfl rfl rfl (Nat.le_of_ble_eq_true rfl) (Nat.le_of_ble_eq_true rfl) (Nat.le_of_ble_eq_true rfl) (Nat.le_of_ble_eq_true rfl) (Nat.le_of_ble_eq_true rfl) (st2 := []) (k2 := 0) (g2 := 0) rfl rfl rfl ?_
      refine hV.goto (tgt := 43) dX0_bendPin_27 (by decide) ?_
      refine hV.iload_n 0 dX0_bendPin_43 rfl ?_
      exact hE.1 dX0_bendPin_44 rfl rfl (by decide) (by decide) (zRi rfl (by simp [bendB, c15_1, c19_2]) rfl)
  · refine hV.if_ne_t (tgt := 30) dX0_bendPin_15 (by decide) c15_1 ?_
    refine hV.iload_n 0 dX0_bendPin_30 rfl ?_
    refine hV.if_eq_f (tgt := 43) dX0_bendPin_31 (by decide) c15_1 ?_
    refine hV.iload_n 3 dX0_bendPin_34 rfl ?_
    by_cases c35_3 : t = 0
    · refine hV.if_ne_f (tgt := 43) dX0_bendPin_35 (by decide) c35_3 ?_
      refine hV.aload_n 1 dX0_bendPin_38 rfl ?_
      refine hV.iload_n 2 dX0_bendPin_39 rfl ?_
      refine hV.callV1 (rest := []) dX0_bendPin_40 (c_X0_removeBentPin G (m := m) hm (by omega)) my_X0_removeBentPin kv_X0_64 B_o rfl rfl rfl (Nat.le_of_ble_eq_true rfl) (Nat.le_of_ble_eq_true rfl) (Nat.le_of_ble_eq_true rfl) (Nat.le_of_ble_eq_true rfl) (Nat.le_of_ble_eq_true rfl) (st2 := []) (k2 := 0) (g2 := 0) rfl rfl rfl ?_
      refine hV.iload_n 0 dX0_bendPin_43 rfl ?_
      exact hE.1 dX0_bendPin_44 rfl rfl (by decide) (by decide) (zRi rfl (by simp [bendB, c15_1, c35_3]) rfl)
    · refine hV.if_ne_t (tgt := 43) dX0_bendPin_35 (by decide) c35_3 ?_
      refine hV.iload_n 0 dX0_bendPin_43 rfl ?_
      exact hE.1 dX0_bendPin_44 rfl rfl (by decide) (by decide) (zRi rfl (by simp [bendB, c15_1, c35_3]) rfl)

set_option maxRecDepth 100000 in
set_option maxHeartbeats 4000000 in
theorem c_X0_spinReels {l : Launch} {D : va_G} {base : Nat} (G : l.stackTraces = false) {h : zH} {n : Nat} {b : Nat} {β : zB} :
    zCt l D base 2 yX0_spinReels w_X0_spinReels [.ref b] (setB h b β) n 0 0 (zR none (setB h b (spinB β)) n) := by
  refine zCt.of G (by decide) (Nat.le_of_ble_eq_true rfl) (fun Sx V X hV hE hX => ?_)
  show V 0 [(0, .ref b)] [] (setB h b β) n 0 0
  by_cases c0 : β 0 10 ≤ 0
  · skip
    refine hV.aload_n 0 dX0_spinReels_0 rfl ?_
    refine hV.getf dX0_spinReels_1 fl_X0_9 B_o rfl ?_
    refine hV.bipush (v := 10) dX0_spinReels_4 (by decide) ?_
    refine hV.iald (j := 10) dX0_spinReels_6 B_a0 ⟨by decide, by decide⟩ (by decide) ?_
    refine hV.if_le_t (tgt := 14) dX0_spinReels_7 (by decide) c0 ?_
    refine hV.bipush (v := 8) dX0_spinReels_14 (by decide) ?_
    refine hV.istore_n (ls2 := [(1, .int 8), (0, .ref b)]) dX0_spinReels_16 (by decide) rfl ?_
    refine hV.aload_n 1 dX0_spinReels_17 rfl ?_
    refine hV.getf dX0_spinReels_18 fl_X0_9 B_o rfl ?_
    refine hV.bipush (v := 10) dX0_spinReels_21 (by decide) ?_
    refine hV.iald (j := 10) dX0_spinReels_23 B_a0 ⟨by decide, by decide⟩ (by decide) ?_
    refine hV.if_le_t (tgt := 38) dX0_spinReels_24 (by decide) c0 ?_
    refine hV.iconst (v := 0) dX0_spinReels_38 (by decide) ?_
    refine hV.istore_n (ls2 := [(2, .int 0), (1, .int 8), (0, .ref b)]) dX0_spinReels_39 (by decide) rfl ?_
    have e1 : spin1 β = β := by simp [spin1, c0]
    have e2 : spinL β = 8 := by simp [spinL, c0]
    rw [← e1]
    refine hV.iload_n 0 dX0_spinReels_40 rfl ?_
    refine hV.iconst (v := 3) dX0_spinReels_41 (by decide) ?_
    refine hV.icmp_ge_f (tgt := 62) dX0_spinReels_42 (by decide) (by decide) ?_
    refine hV.aload_n 2 dX0_spinReels_45 rfl ?_
    refine hV.getf dX0_spinReels_46 fl_X0_39 B_o rfl ?_
    refine hV.iload_n 0 dX0_spinReels_49 rfl ?_
    refine hV.aload_n 2 dX0_spinReels_50 rfl ?_
    refine hV.iload_n 1 dX0_spinReels_51 rfl ?_
    refine hV.callV1 (rest := [.int 0, .ref (b + 10)]) dX0_spinReels_52 (c_X0_drawBelow G (m := 8) (by decide) (by decide)) my_X0_drawBelow kv_X0_96 B_o rfl rfl rfl (Nat.le_of_ble_eq_true rfl) (Nat.le_of_ble_eq_true rfl) (Nat.le_of_ble_eq_true rfl) (Nat.le_of_ble_eq_true rfl) (Nat.le_of_ble_eq_true rfl) (st2 := [.int (drV (dr1 (spin1 β)) 8), .int 0, .ref (b + 10)]) (k2 := 0) (g2 := 0) rfl rfl rfl ?_
    refine hV.iast (j := 0) dX0_spinReels_55 B_a9 ⟨by decide, by decide⟩ (by decide) B_p9 ?_
    refine hV.iinc 0 (v := 1) (ls2 := [(2, .int 1), (1, .int 8), (0, .ref b)]) dX0_spinReels_56 rfl (by decide) (by decide) rfl ?_
    refine hV.goto (tgt := 40) dX0_spinReels_59 (by decide) ?_
    refine hV.iload_n 0 dX0_spinReels_40 rfl ?_
    refine hV.iconst (v := 3) dX0_spinReels_41 (by decide) ?_
    refine hV.icmp_ge_f (tgt := 62) dX0_spinReels_42 (by decide) (by decide) ?_
    refine hV.aload_n 2 dX0_spinReels_45 rfl ?_
    refine hV.getf dX0_spinReels_46 fl_X0_39 B_o rfl ?_
    refine hV.iload_n 0 dX0_spinReels_49 rfl ?_
    refine hV.aload_n 2 dX0_spinReels_50 rfl ?_
    refine hV.iload_n 1 dX0_spinReels_51 rfl ?_
    refine hV.callV1 (rest := [.int 1, .ref (b + 10)]) dX0_spinReels_52 (c_X0_drawBelow G (m := 8) (by decide) (by decide)) my_X0_drawBelow kv_X0_96 B_o rfl rfl rfl (Nat.le_of_ble_eq_true rfl) (Nat.le_of_ble_eq_true rfl) (Nat.le_of_ble_eq_true rfl) (Nat.le_of_ble_eq_true rfl) (Nat.le_of_ble_eq_true rfl) (st2 := [.int (drV (dr1 (up2 (dB (spin1 β)) 9 0 (drV (dr1 (spin1 β)) 8))) 8), .int 1, .ref (b + 10)]) (k2 := 0) (g2 := 0) rfl rfl rfl ?_
    refine hV.iast (j := 1) dX0_spinReels_55 B_a9 ⟨by decide, by decide⟩ (by decide) B_p9 ?_
    refine hV.iinc 0 (v := 2) (ls2 := [(2, .int 2), (1, .int 8), (0, .ref b)]) dX0_spinReels_56 rfl (by decide) (by decide) rfl ?_
    refine hV.goto (tgt := 40) dX0_spinReels_59 (by decide) ?_
    refine hV.iload_n 0 dX0_spinReels_40 rfl ?_
    refine hV.iconst (v := 3) dX0_spinReels_41 (by decide) ?_
    refine hV.icmp_ge_f (tgt := 62) dX0_spinReels_42 (by decide) (by decide) ?_
    refine hV.aload_n 2 dX0_spinReels_45 rfl ?_
    refine hV.getf dX0_spinReels_46 fl_X0_39 B_o rfl ?_
    refine hV.iload_n 0 dX0_spinReels_49 rfl ?_
    refine hV.aload_n 2 dX0_spinReels_50 rfl ?_
    refine hV.iload_n 1 dX0_spinReels_51 rfl ?_
    refine hV.callV1 (rest := [.int 2, .ref (b + 10)]) dX0_spinReels_52 (c_X0_drawBelow G (m := 8) (by decide) (by decide)) my_X0_drawBelow kv_X0_96 B_o rfl rfl rfl (Nat.le_of_ble_eq_true rfl) (Nat.le_of_ble_eq_true rfl) (Nat.le_of_ble_eq_true rfl) (Nat.le_of_ble_eq_true rfl) (Nat.le_of_ble_eq_true rfl) (st2 := [.int (drV (dr1 (up2 (dB (up2 (dB (spin1 β)) 9 0 (drV (dr1 (spin1 β)) 8))) 9 1 (drV (dr1 (up2 (dB (spin1 β)) 9 0 (drV (dr1 (spin1 β)) 8))) 8))) 8), .int 2, .ref (b + 10)]) (k2 := 0) (g2 := 0) rfl rfl rfl ?_
    refine hV.iast (j := 2) dX0_spinReels_55 B_a9 ⟨by decide, by decide⟩ (by decide) B_p9 ?_
    refine hV.iinc 0 (v := 3) (ls2 := [(2, .int 3), (1, .int 8), (0, .ref b)]) dX0_spinReels_56 rfl (by decide) (by decide) rfl ?_
    refine hV.goto (tgt := 40) dX0_spinReels_59 (by decide) ?_
    refine hV.iload_n 0 dX0_spinReels_40 rfl ?_
    refine hV.iconst (v := 3) dX0_spinReels_41 (by decide) ?_
    refine hV.icmp_ge_t (tgt := 62) dX0_spinReels_42 (by decide) (by decide) ?_
    refine zHeap (h2 := setB h b (spin3 (spin1 β) 8)) rfl ?_
    refine hV.aload_n 2 dX0_spinReels_62 rfl ?_
    refine hV.getf dX0_spinReels_63 fl_X0_9 B_o rfl ?_
    refine hV.bipush (v := 7) dX0_spinReels_66 (by decide) ?_
    refine hV.dup2 dX0_spinReels_68 rfl rfl ?_
    refine hV.iald (j := 7) dX0_spinReels_69 B_a0 ⟨by decide, by decide⟩ (by decide) ?_
    refine hV.iconst (v := 1) dX0_spinReels_70 (by decide) ?_
    refine hV.iadd dX0_spinReels_71 ?_
    refine hV.iast (j := 7) dX0_spinReels_72 B_a0 ⟨by decide, by decide⟩ (by decide) B_p0 ?_
    have e3 : spin4 (spin3 (spin1 β) 8) = up2 (spin3 (spin1 β) 8) 0 7 (((spin3 (spin1 β) 8) 0 7) + 1) := rfl
    obtain ⟨γ, hγ⟩ : ∃ z : zB, z = spin4 (spin3 (spin1 β) 8) := ⟨_, rfl⟩
    refine zHeap (h2 := setB h b γ) (by rw [hγ]; rfl) ?_
    refine hV.aload_n 2 dX0_spinReels_73 rfl ?_
    refine hV.getf dX0_spinReels_74 fl_X0_39 B_o rfl ?_
    refine hV.iconst (v := 0) dX0_spinReels_77 (by decide) ?_
    refine hV.iald (j := 0) dX0_spinReels_78 B_a9 ⟨by decide, by decide⟩ (by decide) ?_
    refine hV.aload_n 2 dX0_spinReels_79 rfl ?_
    refine hV.getf dX0_spinReels_80 fl_X0_39 B_o rfl ?_
    refine hV.iconst (v := 1) dX0_spinReels_83 (by decide) ?_
    refine hV.iald (j := 1) dX0_spinReels_84 B_a9 ⟨by decide, by decide⟩ (by decide) ?_
    by_cases c85_1 : (γ 9 0) = (γ 9 1)
    · refine hV.icmp_ne_f (tgt := 145) dX0_spinReels_85 (by decide) c85_1 ?_
      refine hV.aload_n 2 dX0_spinReels_88 rfl ?_
      refine hV.getf dX0_spinReels_89 fl_X0_39 B_o rfl ?_
      refine hV.iconst (v := 1) dX0_spinReels_92 (by decide) ?_
      refine hV.iald (j := 1) dX0_spinReels_93 B_a9 ⟨by decide, by decide⟩ (by decide) ?_
      refine hV.aload_n 2 dX0_spinReels_94 rfl ?_
      refine hV.getf dX0_spinReels_95 fl_X0_39 B_o rfl ?_
      refine hV.iconst (v := 2) dX0_spinReels_98 (by decide) ?_
      refine hV.iald (j := 2) dX0_spinReels_99 B_a9 ⟨by decide, by decide⟩ (by decide) ?_
      by_cases c100_2 : (γ 9 1) = (γ 9 2)
      · refine hV.icmp_ne_f (tgt := 145) dX0_spinReels_100 (by decide) c100_2 ?_
        refine hV.aload_n 2 dX0_spinReels_103 rfl ?_
        refine hV.getf dX0_spinReels_104 fl_X0_9 B_o rfl ?_
        refine hV.bipush (v := 8) dX0_spinReels_107 (by decide) ?_
        refine hV.dup2 dX0_spinReels_109 rfl rfl ?_
        refine hV.iald (j := 8) dX0_spinReels_110 B_a0 ⟨by decide, by decide⟩ (by decide) ?_
        refine hV.iconst (v := 1) dX0_spinReels_111 (by decide) ?_
        refine hV.iadd dX0_spinReels_112 ?_
        refine hV.iast (j := 8) dX0_spinReels_113 B_a0 ⟨by decide, by decide⟩ (by decide) B_p0 ?_
        refine hV.aload_n 2 dX0_spinReels_114 rfl ?_
        refine hV.getf dX0_spinReels_115 fl_X0_9 B_o rfl ?_
        refine hV.bipush (v := 9) dX0_spinReels_118 (by decide) ?_
        refine hV.aload_n 2 dX0_spinReels_120 rfl ?_
        refine hV.getf dX0_spinReels_121 fl_X0_9 B_o rfl ?_
        refine hV.bipush (v := 14) dX0_spinReels_124 (by decide) ?_
        refine hV.iald (j := 14) dX0_spinReels_126 B_a0 ⟨by decide, by decide⟩ (by decide) ?_
        refine zTop (v := γ 0 14) rfl ?_
        refine hV.iast (j := 9) dX0_spinReels_127 B_a0 ⟨by decide, by decide⟩ (by decide) B_p0 ?_
        refine hV.aload_n 2 dX0_spinReels_128 rfl ?_
        refine hV.getf dX0_spinReels_129 fl_X0_9 B_o rfl ?_
        refine hV.bipush (v := 10) dX0_spinReels_132 (by decide) ?_
        refine hV.aload_n 2 dX0_spinReels_134 rfl ?_
        refine hV.getf dX0_spinReels_135 fl_X0_9 B_o rfl ?_
        refine hV.bipush (v := 15) dX0_spinReels_138 (by decide) ?_
        refine hV.iald (j := 15) dX0_spinReels_140 B_a0 ⟨by decide, by decide⟩ (by decide) ?_
        refine zTop (v := γ 0 15) rfl ?_
        refine hV.iast (j := 10) dX0_spinReels_141 B_a0 ⟨by decide, by decide⟩ (by decide) B_p0 ?_
        refine hV.goto (tgt := 153) dX0_spinReels_142 (by decide) ?_
        exact hE.2.2.2 dX0_spinReels_153 rfl (by decide) (by decide) (zRv (by unfold spinB; rw [e2, ← hγ]; simp [spin5, c85_1, c100_2]) rfl)
      · refine hV.icmp_ne_t (tgt := 145) dX0_spinReels_100 (by decide) c100_2 ?_
        refine hV.aload_n 2 dX0_spinReels_145 rfl ?_
        refine hV.getf dX0_spinReels_146 fl_X0_9 B_o rfl ?_
        refine hV.bipush (v := 9) dX0_spinReels_149 (by decide) ?_
        refine hV.iconst (v := 0) dX0_spinReels_151 (by decide) ?_
        refine hV.iast (j := 9) dX0_spinReels_152 B_a0 ⟨by decide, by decide⟩ (by decide) B_p0 ?_
        exact hE.2.2.2 dX0_spinReels_153 rfl (by decide) (by decide) (zRv (by unfold spinB; rw [e2, ← hγ]; simp [spin5, c85_1, c100_2]) rfl)
    · refine hV.icmp_ne_t (tgt := 145) dX0_spinReels_85 (by decide) c85_1 ?_
      refine hV.aload_n 2 dX0_spinReels_145 rfl ?_
      refine hV.getf dX0_spinReels_146 fl_X0_9 B_o rfl ?_
      refine hV.bipush (v := 9) dX0_spinReels_149 (by decide) ?_
      refine hV.iconst (v := 0) dX0_spinReels_151 (by decide) ?_
      refine hV.iast (j := 9) dX0_spinReels_152 B_a0 ⟨by decide, by decide⟩ (by decide) B_p0 ?_
      exact hE.2.2.2 dX0_spinReels_153 rfl (by decide) (by decide) (zRv (by unfold spinB; rw [e2, ← hγ]; simp [spin5, c85_1]) rfl)
  · skip
    refine hV.aload_n 0 dX0_spinReels_0 rfl ?_
    refine hV.getf dX0_spinReels_1 fl_X0_9 B_o rfl ?_
    refine hV.bipush (v := 10) dX0_spinReels_4 (by decide) ?_
    refine hV.iald (j := 10) dX0_spinReels_6 B_a0 ⟨by decide, by decide⟩ (by decide) ?_
    refine hV.if_le_f (tgt := 14) dX0_spinReels_7 (by decide) c0 ?_
    refine hV.iconst (v := 4) dX0_spinReels_10 (by decide) ?_
    refine hV.goto (tgt := 16) dX0_spinReels_11 (by decide) ?_
    refine hV.istore_n (ls2 := [(1, .int 4), (0, .ref b)]) dX0_spinReels_16 (by decide) rfl ?_
    refine hV.aload_n 1 dX0_spinReels_17 rfl ?_
    refine hV.getf dX0_spinReels_18 fl_X0_9 B_o rfl ?_
    refine hV.bipush (v := 10) dX0_spinReels_21 (by decide) ?_
    refine hV.iald (j := 10) dX0_spinReels_23 B_a0 ⟨by decide, by decide⟩ (by decide) ?_
    refine hV.if_le_f (tgt := 38) dX0_spinReels_24 (by decide) c0 ?_
    refine hV.aload_n 1 dX0_spinReels_27 rfl ?_
    refine hV.getf dX0_spinReels_28 fl_X0_9 B_o rfl ?_
    refine hV.bipush (v := 10) dX0_spinReels_31 (by decide) ?_
    refine hV.dup2 dX0_spinReels_33 rfl rfl ?_
    refine hV.iald (j := 10) dX0_spinReels_34 B_a0 ⟨by decide, by decide⟩ (by decide) ?_
    refine hV.iconst (v := 1) dX0_spinReels_35 (by decide) ?_
    refine hV.isub dX0_spinReels_36 ?_
    refine hV.iast (j := 10) dX0_spinReels_37 B_a0 ⟨by decide, by decide⟩ (by decide) B_p0 ?_
    refine hV.iconst (v := 0) dX0_spinReels_38 (by decide) ?_
    refine hV.istore_n (ls2 := [(2, .int 0), (1, .int 4), (0, .ref b)]) dX0_spinReels_39 (by decide) rfl ?_
    have e1 : spin1 β = up2 β 0 10 ((β 0 10) - 1) := by simp [spin1, c0]
    have e2 : spinL β = 4 := by simp [spinL, c0]
    rw [← e1]
    refine hV.iload_n 0 dX0_spinReels_40 rfl ?_
    refine hV.iconst (v := 3) dX0_spinReels_41 (by decide) ?_
    refine hV.icmp_ge_f (tgt := 62) dX0_spinReels_42 (by decide) (by decide) ?_
    refine hV.aload_n 2 dX0_spinReels_45 rfl ?_
    refine hV.getf dX0_spinReels_46 fl_X0_39 B_o rfl ?_
    refine hV.iload_n 0 dX0_spinReels_49 rfl ?_
    refine hV.aload_n 2 dX0_spinReels_50 rfl ?_
    refine hV.iload_n 1 dX0_spinReels_51 rfl ?_
    refine hV.callV1 (rest := [.int 0, .ref (b + 10)]) dX0_spinReels_52 (c_X0_drawBelow G (m := 4) (by decide) (by decide)) my_X0_drawBelow kv_X0_96 B_o rfl rfl rfl (Nat.le_of_ble_eq_true rfl) (Nat.le_of_ble_eq_true rfl) (Nat.le_of_ble_eq_true rfl) (Nat.le_of_ble_eq_true rfl) (Nat.le_of_ble_eq_true rfl) (st2 := [.int (drV (dr1 (spin1 β)) 4), .int 0, .ref (b + 10)]) (k2 := 0) (g2 := 0) rfl rfl rfl ?_
    refine hV.iast (j := 0) dX0_spinReels_55 B_a9 ⟨by decide, by decide⟩ (by decide) B_p9 ?_
    refine hV.iinc 0 (v := 1) (ls2 := [(2, .int 1), (1, .int 4), (0, .ref b)]) dX0_spinReels_56 rfl (by decide) (by decide) rfl ?_
    refine hV.goto (tgt := 40) dX0_spinReels_59 (by decide) ?_
    refine hV.iload_n 0 dX0_spinReels_40 rfl ?_
    refine hV.iconst (v := 3) dX0_spinReels_41 (by decide) ?_
    refine hV.icmp_ge_f (tgt := 62) dX0_spinReels_42 (by decide) (by decide) ?_
    refine hV.aload_n 2 dX0_spinReels_45 rfl ?_
    refine hV.getf dX0_spinReels_46 fl_X0_39 B_o rfl ?_
    refine hV.iload_n 0 dX0_spinReels_49 rfl ?_
    refine hV.aload_n 2 dX0_spinReels_50 rfl ?_
    refine hV.iload_n 1 dX0_spinReels_51 rfl ?_
    refine hV.callV1 (rest := [.int 1, .ref (b + 10)]) dX0_spinReels_52 (c_X0_drawBelow G (m := 4) (by decide) (by decide)) my_X0_drawBelow kv_X0_96 B_o rfl rfl rfl (Nat.le_of_ble_eq_true rfl) (Nat.le_of_ble_eq_true rfl) (Nat.le_of_ble_eq_true rfl) (Nat.le_of_ble_eq_true rfl) (Nat.le_of_ble_eq_true rfl) (st2 := [.int (drV (dr1 (up2 (dB (spin1 β)) 9 0 (drV (dr1 (spin1 β)) 4))) 4), .int 1, .ref (b + 10)]) (k2 := 0) (g2 := 0) rfl rfl rfl ?_
    refine hV.iast (j := 1) dX0_spinReels_55 B_a9 ⟨by decide, by decide⟩ (by decide) B_p9 ?_
    refine hV.iinc 0 (v := 2) (ls2 := [(2, .int 2), (1, .int 4), (0, .ref b)]) dX0_spinReels_56 rfl (by decide) (by decide) rfl ?_
    refine hV.goto (tgt := 40) dX0_spinReels_59 (by decide) ?_
    refine hV.iload_n 0 dX0_spinReels_40 rfl ?_
    refine hV.iconst (v := 3) dX0_spinReels_41 (by decide) ?_
    refine hV.icmp_ge_f (tgt := 62) dX0_spinReels_42 (by decide) (by decide) ?_
    refine hV.aload_n 2 dX0_spinReels_45 rfl ?_
    refine hV.getf dX0_spinReels_46 fl_X0_39 B_o rfl ?_
    refine hV.iload_n 0 dX0_spinReels_49 rfl ?_
    refine hV.aload_n 2 dX0_spinReels_50 rfl ?_
    refine hV.iload_n 1 dX0_spinReels_51 rfl ?_
    refine hV.callV1 (rest := [.int 2, .ref (b + 10)]) dX0_spinReels_52 (c_X0_drawBelow G (m := 4) (by decide) (by decide)) my_X0_drawBelow kv_X0_96 B_o rfl rfl rfl (Nat.le_of_ble_eq_true rfl) (Nat.le_of_ble_eq_true rfl) (Nat.le_of_ble_eq_true rfl) (Nat.le_of_ble_eq_true rfl) (Nat.le_of_ble_eq_true rfl) (st2 := [.int (drV (dr1 (up2 (dB (up2 (dB (spin1 β)) 9 0 (drV (dr1 (spin1 β)) 4))) 9 1 (drV (dr1 (up2 (dB (spin1 β)) 9 0 (drV (dr1 (spin1 β)) 4))) 4))) 4), .int 2, .ref (b + 10)]) (k2 := 0) (g2 := 0) rfl rfl rfl ?_
    refine hV.iast (j := 2) dX0_spinReels_55 B_a9 ⟨by decide, by decide⟩ (by decide) B_p9 ?_
    refine hV.iinc 0 (v := 3) (ls2 := [(2, .int 3), (1, .int 4), (0, .ref b)]) dX0_spinReels_56 rfl (by decide) (by decide) rfl ?_
    refine hV.goto (tgt := 40) dX0_spinReels_59 (by decide) ?_
    refine hV.iload_n 0 dX0_spinReels_40 rfl ?_
    refine hV.iconst (v := 3) dX0_spinReels_41 (by decide) ?_
    refine hV.icmp_ge_t (tgt := 62) dX0_spinReels_42 (by decide) (by decide) ?_
    refine zHeap (h2 := setB h b (spin3 (spin1 β) 4)) rfl ?_
    refine hV.aload_n 2 dX0_spinReels_62 rfl ?_
    refine hV.getf dX0_spinReels_63 fl_X0_9 B_o rfl ?_
    refine hV.bipush (v := 7) dX0_spinReels_66 (by decide) ?_
    refine hV.dup2 dX0_spinReels_68 rfl rfl ?_
    refine hV.iald (j := 7) dX0_spinReels_69 B_a0 ⟨by decide, by decide⟩ (by decide) ?_
    refine hV.iconst (v := 1) dX0_spinReels_70 (by decide) ?_
    refine hV.iadd dX0_spinReels_71 ?_
    refine hV.iast (j := 7) dX0_spinReels_72 B_a0 ⟨by decide, by decide⟩ (by decide) B_p0 ?_
    have e3 : spin4 (spin3 (spin1 β) 4) = up2 (spin3 (spin1 β) 4) 0 7 (((spin3 (spin1 β) 4) 0 7) + 1) := rfl
    obtain ⟨γ, hγ⟩ : ∃ z : zB, z = spin4 (spin3 (spin1 β) 4) := ⟨_, rfl⟩
    refine zHeap (h2 := setB h b γ) (by rw [hγ]; rfl) ?_
    refine hV.aload_n 2 dX0_spinReels_73 rfl ?_
    refine hV.getf dX0_spinReels_74 fl_X0_39 B_o rfl ?_
    refine hV.iconst (v := 0) dX0_spinReels_77 (by decide) ?_
    refine hV.iald (j := 0) dX0_spinReels_78 B_a9 ⟨by decide, by decide⟩ (by decide) ?_
    refine hV.aload_n 2 dX0_spinReels_79 rfl ?_
    refine hV.getf dX0_spinReels_80 fl_X0_39 B_o rfl ?_
    refine hV.iconst (v := 1) dX0_spinReels_83 (by decide) ?_
    refine hV.iald (j := 1) dX0_spinReels_84 B_a9 ⟨by decide, by decide⟩ (by decide) ?_
    by_cases c85_3 : (γ 9 0) = (γ 9 1)
    · refine hV.icmp_ne_f (tgt := 145) dX0_spinReels_85 (by decide) c85_3 ?_
      refine hV.aload_n 2 dX0_spinReels_88 rfl ?_
      refine hV.getf dX0_spinReels_89 fl_X0_39 B_o rfl ?_
      refine hV.iconst (v := 1) dX0_spinReels_92 (by decide) ?_
      refine hV.iald (j := 1) dX0_spinReels_93 B_a9 ⟨by decide, by decide⟩ (by decide) ?_
      refine hV.aload_n 2 dX0_spinReels_94 rfl ?_
      refine hV.getf dX0_spinReels_95 fl_X0_39 B_o rfl ?_
      refine hV.iconst (v := 2) dX0_spinReels_98 (by decide) ?_
      refine hV.iald (j := 2) dX0_spinReels_99 B_a9 ⟨by decide, by decide⟩ (by decide) ?_
      by_cases c100_4 : (γ 9 1) = (γ 9 2)
      · refine hV.icmp_ne_f (tgt := 145) dX0_spinReels_100 (by decide) c100_4 ?_
        refine hV.aload_n 2 dX0_spinReels_103 rfl ?_
        refine hV.getf dX0_spinReels_104 fl_X0_9 B_o rfl ?_
        refine hV.bipush (v := 8) dX0_spinReels_107 (by decide) ?_
        refine hV.dup2 dX0_spinReels_109 rfl rfl ?_
        refine hV.iald (j := 8) dX0_spinReels_110 B_a0 ⟨by decide, by decide⟩ (by decide) ?_
        refine hV.iconst (v := 1) dX0_spinReels_111 (by decide) ?_
        refine hV.iadd dX0_spinReels_112 ?_
        refine hV.iast (j := 8) dX0_spinReels_113 B_a0 ⟨by decide, by decide⟩ (by decide) B_p0 ?_
        refine hV.aload_n 2 dX0_spinReels_114 rfl ?_
        refine hV.getf dX0_spinReels_115 fl_X0_9 B_o rfl ?_
        refine hV.bipush (v := 9) dX0_spinReels_118 (by decide) ?_
        refine hV.aload_n 2 dX0_spinReels_120 rfl ?_
        refine hV.getf dX0_spinReels_121 fl_X0_9 B_o rfl ?_
        refine hV.bipush (v := 14) dX0_spinReels_124 (by decide) ?_
        refine hV.iald (j := 14) dX0_spinReels_126 B_a0 ⟨by decide, by decide⟩ (by decide) ?_
        refine zTop (v := γ 0 14) rfl ?_
        refine hV.iast (j := 9) dX0_spinReels_127 B_a0 ⟨by decide, by decide⟩ (by decide) B_p0 ?_
        refine hV.aload_n 2 dX0_spinReels_128 rfl ?_
        refine hV.getf dX0_spinReels_129 fl_X0_9 B_o rfl ?_
        refine hV.bipush (v := 10) dX0_spinReels_132 (by decide) ?_
        refine hV.aload_n 2 dX0_spinReels_134 rfl ?_
        refine hV.getf dX0_spinReels_135 fl_X0_9 B_o rfl ?_
        refine hV.bipush (v := 15) dX0_spinReels_138 (by decide) ?_
        refine hV.iald (j := 15) dX0_spinReels_140 B_a0 ⟨by decide, by decide⟩ (by decide) ?_
        refine zTop (v := γ 0 15) rfl ?_
        refine hV.iast (j := 10) dX0_spinReels_141 B_a0 ⟨by decide, by decide⟩ (by decide) B_p0 ?_
        refine hV.goto (tgt := 153) dX0_spinReels_142 (by decide) ?_
        exact hE.2.2.2 dX0_spinReels_153 rfl (by decide) (by decide) (zRv (by unfold spinB; rw [e2, ← hγ]; simp [spin5, c85_3, c100_4]) rfl)
      · refine hV.icmp_ne_t (tgt := 145) dX0_spinReels_100 (by decide) c100_4 ?_
        refine hV.aload_n 2 dX0_spinReels_145 rfl ?_
        refine hV.getf dX0_spinReels_146 fl_X0_9 B_o rfl ?_
        refine hV.bipush (v := 9) dX0_spinReels_149 (by decide) ?_
        refine hV.iconst (v := 0) dX0_spinReels_151 (by decide) ?_
        refine hV.iast (j := 9) dX0_spinReels_152 B_a0 ⟨by decide, by decide⟩ (by decide) B_p0 ?_
        exact hE.2.2.2 dX0_spinReels_153 rfl (by decide) (by decide) (zRv (by unfold spinB; rw [e2, ← hγ]; simp [spin5, c85_3, c100_4]) rfl)
    · refine hV.icmp_ne_t (tgt := 145) dX0_spinReels_85 (by decide) c85_3 ?_
      refine hV.aload_n 2 dX0_spinReels_145 rfl ?_
      refine hV.getf dX0_spinReels_146 fl_X0_9 B_o rfl ?_
      refine hV.bipush (v := 9) dX0_spinReels_149 (by decide) ?_
      refine hV.iconst (v := 0) dX0_spinReels_151 (by decide) ?_
      refine hV.iast (j := 9) dX0_spinReels_152 B_a0 ⟨by decide, by decide⟩ (by decide) B_p0 ?_
      exact hE.2.2.2 dX0_spinReels_153 rfl (by decide) (by decide) (zRv (by unfold spinB; rw [e2, ← hγ]; simp [spin5, c85_3]) rfl)

set_option maxRecDepth 100000 in
set_option maxHeartbeats 4000000 in
theorem c_X4_bounce {l : Launch} {D : va_G} {base : Nat} (G : l.stackTraces = false) {h : zH} {n : Nat} {c : Nat} {s : Int32} (hc : c < 7) (hs : s = 1 ∨ s = -1) :
    zCt l D base 1 yX4_bounce w_X4_bounce [.int (nI c), .int s] (h) n 0 0 (zR (some (.int (nI (bnc c s)))) (h) n) := by
  refine zCt.of G (by decide) (Nat.le_of_ble_eq_true rfl) (fun Sx V X hV hE hX => ?_)
  show V 0 [(0, .int (nI c)), (1, .int s)] [] (h) n 0 0
  rcases hs with rfl | rfl
  · skip
    refine hV.iload_n 0 dX4_bounce_0 rfl ?_
    refine hV.iload_n 1 dX4_bounce_1 rfl ?_
    refine hV.iaddN (a := c) (b := 1) dX4_bounce_2 ?_
    refine hV.istore_n (ls2 := [(2, .int (nI (c + 1))), (0, .int (nI c)), (1, .int 1)]) dX4_bounce_3 (by decide) rfl ?_
    refine hV.iload_n 0 dX4_bounce_4 rfl ?_
    refine hV.if_lt_f (tgt := 14) dX4_bounce_5 (by decide) (nI_pos (by omega)) ?_
    refine hV.iload_n 0 dX4_bounce_8 rfl ?_
    refine hV.bipush (v := 7) dX4_bounce_9 (by decide) ?_
    by_cases c11_1 : c + 1 < 7
    · refine hV.icmp_lt_t (tgt := 18) dX4_bounce_11 (by decide) ((nI_ltI (a := c + 1) (b := 7) (by omega) (by omega)).mpr c11_1) ?_
      refine hV.iload_n 0 dX4_bounce_18 rfl ?_
      exact hE.1 dX4_bounce_19 rfl rfl (by decide) (by decide) (zRi (by have := c11_1; simp only [bnc, if_true]; first | rw [if_pos (by omega)] | rw [if_neg (by omega)]) rfl rfl)
    · refine hV.icmp_lt_f (tgt := 18) dX4_bounce_11 (by decide) (fun q => absurd ((nI_ltI (a := c + 1) (b := 7) (by omega) (by omega)).mp q) c11_1) ?_
      refine hV.iload_n 1 dX4_bounce_14 rfl ?_
      refine hV.goto (tgt := 19) dX4_bounce_15 (by decide) ?_
      exact hE.1 dX4_bounce_19 rfl rfl (by decide) (by decide) (zRi (by have := c11_1; simp only [bnc, if_true]; first | rw [if_pos (by omega)] | rw [if_neg (by omega)]) rfl rfl)
  · cases c with
    | zero =>
      show V 0 [(0, .int 0), (1, .int (-1))] [] (h) n 0 0
      refine hV.iload_n 0 dX4_bounce_0 rfl ?_
      refine hV.iload_n 1 dX4_bounce_1 rfl ?_
      refine hV.iadd dX4_bounce_2 ?_
      refine zTop (v := (-1)) (by decide) ?_
      refine hV.istore_n (ls2 := [(2, .int (-1)), (0, .int 0), (1, .int (-1))]) dX4_bounce_3 (by decide) rfl ?_
      refine hV.iload_n 0 dX4_bounce_4 rfl ?_
      refine hV.if_lt_t (tgt := 14) dX4_bounce_5 (by decide) (by decide) ?_
      refine hV.iload_n 1 dX4_bounce_14 rfl ?_
      refine hV.goto (tgt := 19) dX4_bounce_15 (by decide) ?_
      exact hE.1 dX4_bounce_19 rfl rfl (by decide) (by decide) (zRi rfl rfl rfl)
    | succ c =>
      refine hV.iload_n 0 dX4_bounce_0 rfl ?_
      refine hV.iload_n 1 dX4_bounce_1 rfl ?_
      refine hV.iadd dX4_bounce_2 ?_
      refine zTop (v := nI c) (zI_m1 c) ?_
      refine hV.istore_n (ls2 := [(2, .int (nI c)), (0, .int (nI (c + 1))), (1, .int (-1))]) dX4_bounce_3 (by decide) rfl ?_
      refine hV.iload_n 0 dX4_bounce_4 rfl ?_
      refine hV.if_lt_f (tgt := 14) dX4_bounce_5 (by decide) (nI_pos (by omega)) ?_
      refine hV.iload_n 0 dX4_bounce_8 rfl ?_
      refine hV.bipush (v := 7) dX4_bounce_9 (by decide) ?_
      refine hV.icmp_lt_t (tgt := 18) dX4_bounce_11 (by decide) ((nI_ltI (a := c) (b := 7) (by omega) (by omega)).mpr (by omega)) ?_
      refine hV.iload_n 0 dX4_bounce_18 rfl ?_
      exact hE.1 dX4_bounce_19 rfl rfl (by decide) (by decide) (zRi (by simp [bnc]) rfl rfl)

set_option maxRecDepth 100000 in
set_option maxHeartbeats 4000000 in
theorem c_X0_fallFrom {l : Launch} {D : va_G} {base : Nat} (G : l.stackTraces = false) {h : zH} {n : Nat} {b : Nat} {β : zB} {c : Nat} (hc : c < 7) (hp : pinOk (β 1)) :
    zCt l D base 2 yX0_fallFrom w_X0_fallFrom [.ref b, .int (nI c)] (setB h b β) n 0 0 (zR (some (.int (nI ((fallN β c 8).2)))) (setB h b ((fallN β c 8).1)) n) := by
  refine zCt.of G (by decide) (Nat.le_of_ble_eq_true rfl) (fun Sx V X hV hE hX => ?_)
  show V 0 [(0, .ref b), (1, .int (nI c))] [] (setB h b β) n 0 0
  refine hV.iload_n 1 dX0_fallFrom_0 rfl ?_
  refine hV.istore_n (ls2 := [(2, .int (nI c)), (0, .ref b), (1, .int (nI c))]) dX0_fallFrom_1 (by decide) rfl ?_
  refine hV.iconst (v := 0) dX0_fallFrom_2 (by decide) ?_
  refine hV.istore_n (ls2 := [(3, .int 0), (2, .int (nI c)), (0, .ref b), (1, .int (nI c))]) dX0_fallFrom_3 (by decide) rfl ?_
  have loop : ∀ (k j : Nat) (γ : zB) (c2 : Nat), j + k = 8 → ((γ, c2) = fallN β c j) → (c2 < 7) → (∀ i, γ 1 i = β 1 i) → V 4 [(3, .int (nI j)), (2, .int (nI c2)), (0, .ref b), (1, .int (nI c))] [] (setB h b γ) n 0 0 := by
    intro k
    induction k with
    | zero =>
      intro j γ c2 hj he hc2 hpin
      refine hV.iload_n 0 dX0_fallFrom_4 rfl ?_
      refine hV.bipush (v := 8) dX0_fallFrom_5 (by decide) ?_
      refine hV.icmp_ge_t (tgt := 68) dX0_fallFrom_7 (by decide) ((nI_leI (a := 8) (b := j) (by omega) (by omega)).mpr (by omega)) ?_
      refine hV.iload_n 1 dX0_fallFrom_68 rfl ?_
      exact hE.1 dX0_fallFrom_69 rfl rfl (by decide) (by decide) (zRi (by have e : j = 8 := (by omega); subst e; rw [← he]) (by have e : j = 8 := (by omega); subst e; rw [← he]) rfl)
    | succ k ih =>
      intro j γ c2 hj he hc2 hpin
      refine hV.iload_n 0 dX0_fallFrom_4 rfl ?_
      refine hV.bipush (v := 8) dX0_fallFrom_5 (by decide) ?_
      refine hV.icmp_ge_f (tgt := 68) dX0_fallFrom_7 (by decide) (fun q => absurd ((nI_leI (a := 8) (b := j) (by omega) (by omega)).mp q) (by omega)) ?_
      refine hV.iload_n 0 dX0_fallFrom_10 rfl ?_
      refine hV.bipush (v := 7) dX0_fallFrom_11 (by decide) ?_
      refine hV.imulN (a := j) (b := 7) dX0_fallFrom_13 ?_
      refine hV.iload_n 1 dX0_fallFrom_14 rfl ?_
      refine hV.iaddN (a := j * 7) (b := c2) dX0_fallFrom_15 ?_
      refine hV.istore (ls2 := [(4, .int (nI ((j * 7) + c2))), (3, .int (nI j)), (2, .int (nI c2)), (0, .ref b), (1, .int (nI c))]) dX0_fallFrom_16 (by decide) rfl ?_
      refine hV.aload_n 3 dX0_fallFrom_18 rfl ?_
      refine hV.getf dX0_fallFrom_19 fl_X0_21 B_o rfl ?_
      refine hV.iload_n 1 dX0_fallFrom_22 rfl ?_
      refine hV.iload 0 dX0_fallFrom_23 rfl ?_
      refine hV.iast (j := j) dX0_fallFrom_25 B_a3 (zix_nI (by omega)) (by omega) B_p3 ?_
      refine hV.aload_n 3 dX0_fallFrom_26 rfl ?_
      refine hV.getf dX0_fallFrom_27 fl_X0_15 B_o rfl ?_
      refine hV.iload 0 dX0_fallFrom_30 rfl ?_
      refine hV.iald (j := (j * 7) + c2) dX0_fallFrom_32 B_a1 (zix_nI (by omega)) (by omega) ?_
      refine zTop (v := γ 1 ((j * 7) + c2)) rfl ?_
      refine hV.istore (ls2 := [(5, .int (γ 1 ((j * 7) + c2))), (4, .int (nI ((j * 7) + c2))), (3, .int (nI j)), (2, .int (nI c2)), (0, .ref b), (1, .int (nI c))]) dX0_fallFrom_33 (by decide) rfl ?_
      refine hV.iload 0 dX0_fallFrom_35 rfl ?_
      by_cases c37_1 : (γ 1 ((j * 7) + c2)) = 0
      · refine hV.if_ne_f (tgt := 55) dX0_fallFrom_37 (by decide) c37_1 ?_
        refine hV.aload_n 4 dX0_fallFrom_40 rfl ?_
        refine hV.iconst (v := 2) dX0_fallFrom_41 (by decide) ?_
        refine hV.callV1 (rest := []) dX0_fallFrom_42 (c_X0_drawBelow G (m := 2) (by decide) (by decide)) my_X0_drawBelow kv_X0_96 B_o rfl rfl rfl (Nat.le_of_ble_eq_true rfl) (Nat.le_of_ble_eq_true rfl) (Nat.le_of_ble_eq_true rfl) (Nat.le_of_ble_eq_true rfl) (Nat.le_of_ble_eq_true rfl) (st2 := [.int (drV (dr1 (up2 γ 3 j (nI ((j * 7) + c2)))) 2)]) (k2 := 0) (g2 := 0) rfl rfl rfl ?_
        by_cases c45_2 : (drV (dr1 (up2 γ 3 j (nI ((j * 7) + c2)))) 2) = 0
        · refine hV.if_ne_f (tgt := 52) dX0_fallFrom_45 (by decide) c45_2 ?_
          refine hV.iconst (v := (-1)) dX0_fallFrom_48 (by decide) ?_
          refine hV.goto (tgt := 53) dX0_fallFrom_49 (by decide) ?_
          refine hV.istore (ls2 := [(5, .int (-1)), (4, .int (nI ((j * 7) + c2))), (3, .int (nI j)), (2, .int (nI c2)), (0, .ref b), (1, .int (nI c))]) dX0_fallFrom_53 (by decide) rfl ?_
          refine hV.iload_n 3 dX0_fallFrom_55 rfl ?_
          refine hV.iload 0 dX0_fallFrom_56 rfl ?_
          refine hV.callSN1 (rest := []) dX0_fallFrom_58 (c_X4_bounce G (c := c2) (s := (-1)) (by omega) (Or.inr rfl)) my_X4_bounce ks_X0_99 rfl rfl (Nat.le_of_ble_eq_true rfl) (Nat.le_of_ble_eq_true rfl) (Nat.le_of_ble_eq_true rfl) (Nat.le_of_ble_eq_true rfl) (Nat.le_of_ble_eq_true rfl) (st2 := [.int (nI (bnc c2 (-1)))]) (k2 := 0) (g2 := 0) rfl rfl rfl ?_
          refine hV.istore_n (ls2 := [(2, .int (nI (bnc c2 (-1)))), (5, .int (-1)), (4, .int (nI ((j * 7) + c2))), (3, .int (nI j)), (0, .ref b), (1, .int (nI c))]) dX0_fallFrom_61 (by decide) rfl ?_
          refine hV.iinc 3 (v := nI (j + 1)) (ls2 := [(3, .int (nI (j + 1))), (2, .int (nI (bnc c2 (-1)))), (5, .int (-1)), (4, .int (nI ((j * 7) + c2))), (0, .ref b), (1, .int (nI c))]) dX0_fallFrom_62 rfl (nI_1 _) (by decide) rfl ?_
          refine hV.goto (tgt := 4) dX0_fallFrom_65 (by decide) ?_
          refine hV.pick [0, 1, 4, 5] (ls2 := [(3, .int (nI (j + 1))), (2, .int (nI (bnc c2 (-1)))), (0, .ref b), (1, .int (nI c))]) rfl ?_
          exact ih (j + 1) _ _ (by omega) (by show _ = fallS (fallN β c j).1 j (fallN β c j).2; rw [← he]; unfold fallS; rw [if_pos c37_1, if_pos c45_2]) (bnc_lt hc2) (fun i => hpin i)
        · refine hV.if_ne_t (tgt := 52) dX0_fallFrom_45 (by decide) c45_2 ?_
          refine hV.iconst (v := 1) dX0_fallFrom_52 (by decide) ?_
          refine hV.istore (ls2 := [(5, .int 1), (4, .int (nI ((j * 7) + c2))), (3, .int (nI j)), (2, .int (nI c2)), (0, .ref b), (1, .int (nI c))]) dX0_fallFrom_53 (by decide) rfl ?_
          refine hV.iload_n 3 dX0_fallFrom_55 rfl ?_
          refine hV.iload 0 dX0_fallFrom_56 rfl ?_
          refine hV.callSN1 (rest := []) dX0_fallFrom_58 (c_X4_bounce G (c := c2) (s := 1) (by omega) (Or.inl rfl)) my_X4_bounce ks_X0_99 rfl rfl (Nat.le_of_ble_eq_true rfl) (Nat.le_of_ble_eq_true rfl) (Nat.le_of_ble_eq_true rfl) (Nat.le_of_ble_eq_true rfl) (Nat.le_of_ble_eq_true rfl) (st2 := [.int (nI (bnc c2 1))]) (k2 := 0) (g2 := 0) rfl rfl rfl ?_
          refine hV.istore_n (ls2 := [(2, .int (nI (bnc c2 1))), (5, .int 1), (4, .int (nI ((j * 7) + c2))), (3, .int (nI j)), (0, .ref b), (1, .int (nI c))]) dX0_fallFrom_61 (by decide) rfl ?_
          refine hV.iinc 3 (v := nI (j + 1)) (ls2 := [(3, .int (nI (j + 1))), (2, .int (nI (bnc c2 1))), (5, .int 1), (4, .int (nI ((j * 7) + c2))), (0, .ref b), (1, .int (nI c))]) dX0_fallFrom_62 rfl (nI_1 _) (by decide) rfl ?_
          refine hV.goto (tgt := 4) dX0_fallFrom_65 (by decide) ?_
          refine hV.pick [0, 1, 4, 5] (ls2 := [(3, .int (nI (j + 1))), (2, .int (nI (bnc c2 1))), (0, .ref b), (1, .int (nI c))]) rfl ?_
          exact ih (j + 1) _ _ (by omega) (by show _ = fallS (fallN β c j).1 j (fallN β c j).2; rw [← he]; unfold fallS; rw [if_pos c37_1, if_neg c45_2]) (bnc_lt hc2) (fun i => hpin i)
      · refine hV.if_ne_t (tgt := 55) dX0_fallFrom_37 (by decide) c37_1 ?_
        refine hV.iload_n 3 dX0_fallFrom_55 rfl ?_
        refine hV.iload 0 dX0_fallFrom_56 rfl ?_
        refine hV.callSN1 (rest := []) dX0_fallFrom_58 (c_X4_bounce G (c := c2) (s := γ 1 ((j * 7) + c2)) (by omega) (pinne (by rw [hpin]; exact hp _ (by omega)) (by assumption))) my_X4_bounce ks_X0_99 rfl rfl (Nat.le_of_ble_eq_true rfl) (Nat.le_of_ble_eq_true rfl) (Nat.le_of_ble_eq_true rfl) (Nat.le_of_ble_eq_true rfl) (Nat.le_of_ble_eq_true rfl) (st2 := [.int (nI (bnc c2 (γ 1 ((j * 7) + c2))))]) (k2 := 0) (g2 := 0) rfl rfl rfl ?_
        refine hV.istore_n (ls2 := [(2, .int (nI (bnc c2 (γ 1 ((j * 7) + c2))))), (5, .int (γ 1 ((j * 7) + c2))), (4, .int (nI ((j * 7) + c2))), (3, .int (nI j)), (0, .ref b), (1, .int (nI c))]) dX0_fallFrom_61 (by decide) rfl ?_
        refine hV.iinc 3 (v := nI (j + 1)) (ls2 := [(3, .int (nI (j + 1))), (2, .int (nI (bnc c2 (γ 1 ((j * 7) + c2))))), (5, .int (γ 1 ((j * 7) + c2))), (4, .int (nI ((j * 7) + c2))), (0, .ref b), (1, .int (nI c))]) dX0_fallFrom_62 rfl (nI_1 _) (by decide) rfl ?_
        refine hV.goto (tgt := 4) dX0_fallFrom_65 (by decide) ?_
        refine hV.pick [0, 1, 4, 5] (ls2 := [(3, .int (nI (j + 1))), (2, .int (nI (bnc c2 (γ 1 ((j * 7) + c2))))), (0, .ref b), (1, .int (nI c))]) rfl ?_
        exact ih (j + 1) _ _ (by omega) (by show _ = fallS (fallN β c j).1 j (fallN β c j).2; rw [← he]; unfold fallS; rw [if_neg c37_1]) (bnc_lt hc2) (fun i => hpin i)
  exact loop (8) 0 β c (by omega) rfl hc (fun _ => rfl)

