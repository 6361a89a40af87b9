/-! The reference, 4: undo, keep, restore, aside, counts -/

set_option maxRecDepth 100000 in
set_option maxHeartbeats 4000000 in
theorem c_X5_putAside {l : Launch} {D : va_G} {base : Nat} (G : l.stackTraces = false) {h : zH} {n : Nat} {b : Nat} {μ : zB} {φ : Nat → Int32} :
    zCt l D base 1 yX5_putAside w_X5_putAside [.ref b] (setM h b φ μ) n 0 0 (zR none (setM h b φ (sa μ 1 (cpz (μ 1) (μ 0) 175))) n) := by
  refine zCt.of G (by decide) (Nat.le_of_ble_eq_true rfl) (fun Sx V X hV hE hX => ?_)
  show V 0 [(0, .ref b)] [] (setM h b φ μ) n 0 0
  refine hV.iconst (v := 0) dX5_putAside_0 (by decide) ?_
  refine hV.istore_n (ls2 := [(1, .int 0), (0, .ref b)]) dX5_putAside_1 (by decide) rfl ?_
  refine zHeap (h2 := setM h b φ (sa μ 1 (cpz (μ 1) (μ 0) 0))) (by rw [cpz_0]; first | rw [sa_self] | exact congrArg (fun z => setM h b _ z) (sa_self _ 1).symm) ?_
  have loop : ∀ (r i : Nat) , i + r = 175 → V 2 [(1, .int (nI i)), (0, .ref b)] [] (setM h b φ (sa μ 1 (cpz (μ 1) (μ 0) i))) n 0 0 := by
    intro r
    induction r with
    | zero =>
      intro i  hi 
      refine hV.iload_n 0 dX5_putAside_2 rfl ?_
      refine hV.sipush (v := 175) dX5_putAside_3 (by decide) ?_
      refine hV.icmp_ge_t (tgt := 27) dX5_putAside_6 (by decide) ((nI_leI (a := 175) (b := i) (by omega) (by omega)).mpr (by omega)) ?_
      exact hE.2.2.2 dX5_putAside_27 rfl (by decide) (by decide) (zRv (by have e : i = 175 := (by omega); subst e; rfl) rfl)
    | succ r ih =>
      intro i  hi 
      refine hV.iload_n 0 dX5_putAside_2 rfl ?_
      refine hV.sipush (v := 175) dX5_putAside_3 (by decide) ?_
      refine hV.icmp_ge_f (tgt := 27) dX5_putAside_6 (by decide) (fun q => absurd ((nI_leI (a := 175) (b := i) (by omega) (by omega)).mp q) (by omega)) ?_
      refine hV.aload_n 1 dX5_putAside_9 rfl ?_
      refine hV.getf (v := .ref (b + 2)) dX5_putAside_10 fl_X5_13 M_o rfl ?_
      refine hV.iload_n 0 dX5_putAside_13 rfl ?_
      refine hV.aload_n 1 dX5_putAside_14 rfl ?_
      refine hV.getf (v := .ref (b + 1)) dX5_putAside_15 fl_X5_7 M_o rfl ?_
      refine hV.iload_n 0 dX5_putAside_18 rfl ?_
      refine hV.iald (j := i) dX5_putAside_19 M_a0 (zix_nI (by omega)) (by omega) ?_
      refine zTop (v := μ 0 i) rfl ?_
      refine hV.iast (j := i) dX5_putAside_20 M_a1 (zix_nI (by omega)) (by omega) M_p1 ?_
      refine hV.iinc 0 (v := nI (i + 1)) (ls2 := [(1, .int (nI (i + 1))), (0, .ref b)]) dX5_putAside_21 rfl (nI_1 _) (by decide) rfl ?_
      refine hV.goto (tgt := 2) dX5_putAside_24 (by decide) ?_
      refine zHeap (h2 := setM h b φ (sa μ 1 (va_up (cpz (μ 1) (μ 0) i) i (μ 0 i)))) (by simp only [up2_sa, sa_z, sa_at]; try rfl) ?_
      refine zHeap (h2 := setM h b φ (sa μ 1 (cpz (μ 1) (μ 0) (i + 1)))) (by rw [cpz_s]) ?_
      exact ih (i + 1) (by omega)
  exact loop (175) 0 (by omega)

set_option maxRecDepth 100000 in
set_option maxHeartbeats 4000000 in
theorem c_X5_putBack {l : Launch} {D : va_G} {base : Nat} (G : l.stackTraces = false) {h : zH} {n : Nat} {b : Nat} {μ : zB} {φ : Nat → Int32} :
    zCt l D base 1 yX5_putBack w_X5_putBack [.ref b] (setM h b φ μ) n 0 0 (zR none (setM h b φ (sa μ 0 (cpz (μ 0) (μ 1) 175))) n) := by
  refine zCt.of G (by decide) (Nat.le_of_ble_eq_true rfl) (fun Sx V X hV hE hX => ?_)
  show V 0 [(0, .ref b)] [] (setM h b φ μ) n 0 0
  refine hV.iconst (v := 0) dX5_putBack_0 (by decide) ?_
  refine hV.istore_n (ls2 := [(1, .int 0), (0, .ref b)]) dX5_putBack_1 (by decide) rfl ?_
  refine zHeap (h2 := setM h b φ (sa μ 0 (cpz (μ 0) (μ 1) 0))) (by rw [cpz_0]; first | rw [sa_self] | exact congrArg (fun z => setM h b _ z) (sa_self _ 0).symm) ?_
  have loop : ∀ (r i : Nat) , i + r = 175 → V 2 [(1, .int (nI i)), (0, .ref b)] [] (setM h b φ (sa μ 0 (cpz (μ 0) (μ 1) i))) n 0 0 := by
    intro r
    induction r with
    | zero =>
      intro i  hi 
      refine hV.iload_n 0 dX5_putBack_2 rfl ?_
      refine hV.sipush (v := 175) dX5_putBack_3 (by decide) ?_
      refine hV.icmp_ge_t (tgt := 27) dX5_putBack_6 (by decide) ((nI_leI (a := 175) (b := i) (by omega) (by omega)).mpr (by omega)) ?_
      exact hE.2.2.2 dX5_putBack_27 rfl (by decide) (by decide) (zRv (by have e : i = 175 := (by omega); subst e; rfl) rfl)
    | succ r ih =>
      intro i  hi 
      refine hV.iload_n 0 dX5_putBack_2 rfl ?_
      refine hV.sipush (v := 175) dX5_putBack_3 (by decide) ?_
      refine hV.icmp_ge_f (tgt := 27) dX5_putBack_6 (by decide) (fun q => absurd ((nI_leI (a := 175) (b := i) (by omega) (by omega)).mp q) (by omega)) ?_
      refine hV.aload_n 1 dX5_putBack_9 rfl ?_
      refine hV.getf (v := .ref (b + 1)) dX5_putBack_10 fl_X5_7 M_o rfl ?_
      refine hV.iload_n 0 dX5_putBack_13 rfl ?_
      refine hV.aload_n 1 dX5_putBack_14 rfl ?_
      refine hV.getf (v := .ref (b + 2)) dX5_putBack_15 fl_X5_13 M_o rfl ?_
      refine hV.iload_n 0 dX5_putBack_18 rfl ?_
      refine hV.iald (j := i) dX5_putBack_19 M_a1 (zix_nI (by omega)) (by omega) ?_
      refine zTop (v := μ 1 i) rfl ?_
      refine hV.iast (j := i) dX5_putBack_20 M_a0 (zix_nI (by omega)) (by omega) M_p0 ?_
      refine hV.iinc 0 (v := nI (i + 1)) (ls2 := [(1, .int (nI (i + 1))), (0, .ref b)]) dX5_putBack_21 rfl (nI_1 _) (by decide) rfl ?_
      refine hV.goto (tgt := 2) dX5_putBack_24 (by decide) ?_
      refine zHeap (h2 := setM h b φ (sa μ 0 (va_up (cpz (μ 0) (μ 1) i) i (μ 1 i)))) (by simp only [up2_sa, sa_z, sa_at]; try rfl) ?_
      refine zHeap (h2 := setM h b φ (sa μ 0 (cpz (μ 0) (μ 1) (i + 1)))) (by rw [cpz_s]) ?_
      exact ih (i + 1) (by omega)
  exact loop (175) 0 (by omega)

set_option maxRecDepth 100000 in
set_option maxHeartbeats 4000000 in
theorem c_X5_keep {l : Launch} {D : va_G} {base : Nat} (G : l.stackTraces = false) {h : zH} {n : Nat} {b : Nat} {μ : zB} {φ : Nat → Int32} :
    zCt l D base 1 yX5_keep w_X5_keep [.ref b] (setM h b φ μ) n 0 0 (zR (some (.int (μ 0 1))) (setM h b (va_up (va_up φ 0 0) 2 1) (sa μ 3 (cpz (μ 3) (μ 0) 175))) n) := by
  refine zCt.of G (by decide) (Nat.le_of_ble_eq_true rfl) (fun Sx V X hV hE hX => ?_)
  show V 0 [(0, .ref b)] [] (setM h b φ μ) n 0 0
  refine hV.aload_n 0 dX5_keep_0 rfl ?_
  refine hV.iconst (v := 0) dX5_keep_1 (by decide) ?_
  refine hV.putf dX5_keep_2 fp_X5_35 M_o (Nat.le_of_ble_eq_true rfl) rfl rfl M_f0 ?_
  refine hV.iconst (v := 0) dX5_keep_5 (by decide) ?_
  refine hV.istore_n (ls2 := [(1, .int 0), (0, .ref b)]) dX5_keep_6 (by decide) rfl ?_
  refine zHeap (h2 := setM h b (va_up φ 0 0) (sa μ 3 (cpz (μ 3) (μ 0) 0))) (by rw [cpz_0]; first | rw [sa_self] | exact congrArg (fun z => setM h b _ z) (sa_self _ 3).symm) ?_
  have loop : ∀ (r i : Nat) , i + r = 175 → V 7 [(1, .int (nI i)), (0, .ref b)] [] (setM h b (va_up φ 0 0) (sa μ 3 (cpz (μ 3) (μ 0) i))) n 0 0 := by
    intro r
    induction r with
    | zero =>
      intro i  hi 
      refine hV.iload_n 0 dX5_keep_7 rfl ?_
      refine hV.sipush (v := 175) dX5_keep_8 (by decide) ?_
      refine hV.icmp_ge_t (tgt := 32) dX5_keep_11 (by decide) ((nI_leI (a := 175) (b := i) (by omega) (by omega)).mpr (by omega)) ?_
      refine hV.aload_n 1 dX5_keep_32 rfl ?_
      refine hV.iconst (v := 1) dX5_keep_33 (by decide) ?_
      refine hV.putf dX5_keep_34 fp_X5_46 M_o (Nat.le_of_ble_eq_true rfl) rfl rfl M_f2 ?_
      refine hV.aload_n 1 dX5_keep_37 rfl ?_
      refine hV.getf (v := .ref (b + 1)) dX5_keep_38 fl_X5_7 M_o rfl ?_
      refine hV.iconst (v := 1) dX5_keep_41 (by decide) ?_
      refine hV.iald (j := 1) dX5_keep_42 M_a0 ⟨by decide, by decide⟩ (by decide) ?_
      refine zTop (v := μ 0 1) rfl ?_
      exact hE.1 dX5_keep_43 rfl rfl (by decide) (by decide) (zRi rfl (by have e : i = 175 := (by omega); subst e; rfl) rfl)
    | succ r ih =>
      intro i  hi 
      refine hV.iload_n 0 dX5_keep_7 rfl ?_
      refine hV.sipush (v := 175) dX5_keep_8 (by decide) ?_
      refine hV.icmp_ge_f (tgt := 32) dX5_keep_11 (by decide) (fun q => absurd ((nI_leI (a := 175) (b := i) (by omega) (by omega)).mp q) (by omega)) ?_
      refine hV.aload_n 1 dX5_keep_14 rfl ?_
      refine hV.getf (v := .ref (b + 4)) dX5_keep_15 fl_X5_19 M_o rfl ?_
      refine hV.iload_n 0 dX5_keep_18 rfl ?_
      refine hV.aload_n 1 dX5_keep_19 rfl ?_
      refine hV.getf (v := .ref (b + 1)) dX5_keep_20 fl_X5_7 M_o rfl ?_
      refine hV.iload_n 0 dX5_keep_23 rfl ?_
      refine hV.iald (j := i) dX5_keep_24 M_a0 (zix_nI (by omega)) (by omega) ?_
      refine zTop (v := μ 0 i) rfl ?_
      refine hV.iast (j := i) dX5_keep_25 M_a3 (zix_nI (by omega)) (by omega) M_p3 ?_
      refine hV.iinc 0 (v := nI (i + 1)) (ls2 := [(1, .int (nI (i + 1))), (0, .ref b)]) dX5_keep_26 rfl (nI_1 _) (by decide) rfl ?_
      refine hV.goto (tgt := 7) dX5_keep_29 (by decide) ?_
      refine zHeap (h2 := setM h b (va_up φ 0 0) (sa μ 3 (va_up (cpz (μ 3) (μ 0) i) i (μ 0 i)))) (by simp only [up2_sa, sa_z, sa_at]; try rfl) ?_
      refine zHeap (h2 := setM h b (va_up φ 0 0) (sa μ 3 (cpz (μ 3) (μ 0) (i + 1)))) (by rw [cpz_s]) ?_
      exact ih (i + 1) (by omega)
  exact loop (175) 0 (by omega)

set_option maxRecDepth 100000 in
set_option maxHeartbeats 4000000 in
theorem c_X5_undo_x {l : Launch} {D : va_G} {base : Nat} (G : l.stackTraces = false) {h : zH} {n : Nat} {b : Nat} {μ : zB} {φ : Nat → Int32} (hk : φ 1 = 0) :
    zCt l D base 1 yX5_undo w_X5_undo [.ref b] (setM h b φ μ) n 0 0 (zR (some (.int 0)) (setM h b (va_up φ 0 1) μ) n) := by
  refine zCt.of G (by decide) (Nat.le_of_ble_eq_true rfl) (fun Sx V X hV hE hX => ?_)
  show V 0 [(0, .ref b)] [] (setM h b φ μ) n 0 0
  refine hV.aload_n 0 dX5_undo_0 rfl ?_
  refine hV.aload_n 0 dX5_undo_1 rfl ?_
  refine hV.getf (v := .int (φ 1)) dX5_undo_2 fl_X5_43 M_o rfl ?_
  refine hV.if_ne_f (tgt := 12) dX5_undo_5 (by decide) hk ?_
  refine hV.iconst (v := 1) dX5_undo_8 (by decide) ?_
  refine hV.goto (tgt := 13) dX5_undo_9 (by decide) ?_
  refine hV.putf dX5_undo_13 fp_X5_35 M_o (Nat.le_of_ble_eq_true rfl) rfl rfl M_f0 ?_
  refine hV.aload_n 0 dX5_undo_16 rfl ?_
  refine hV.getf (v := .int 1) dX5_undo_17 fl_X5_35 M_o rfl ?_
  refine hV.if_le_f (tgt := 25) dX5_undo_20 (by decide) (by decide) ?_
  refine hV.iconst (v := 0) dX5_undo_23 (by decide) ?_
  exact hE.1 dX5_undo_24 rfl rfl (by decide) (by decide) (zRi rfl rfl rfl)

set_option maxRecDepth 100000 in
set_option maxHeartbeats 4000000 in
theorem c_X5_undo {l : Launch} {D : va_G} {base : Nat} (G : l.stackTraces = false) {h : zH} {n : Nat} {b : Nat} {μ : zB} {φ : Nat → Int32} {k : Nat} (hk : φ 1 = nI (k + 1)) (hk6 : k < 6) :
    zCt l D base 1 yX5_undo w_X5_undo [.ref b] (setM h b φ μ) n 0 0 (zR (some (.int (nI k))) (setM h b (va_up (va_up φ 0 0) 1 (nI k)) (sa μ 0 (cpF (μ 0) (μ 2) (175 * k) 175))) n) := by
  refine zCt.of G (by decide) (Nat.le_of_ble_eq_true rfl) (fun Sx V X hV hE hX => ?_)
  show V 0 [(0, .ref b)] [] (setM h b φ μ) n 0 0
  refine hV.aload_n 0 dX5_undo_0 rfl ?_
  refine hV.aload_n 0 dX5_undo_1 rfl ?_
  refine hV.getf (v := .int (φ 1)) dX5_undo_2 fl_X5_43 M_o rfl ?_
  refine zTop (v := nI (k + 1)) hk ?_
  refine hV.if_ne_t (tgt := 12) dX5_undo_5 (by decide) (nI_ne0 (by omega) (by omega)) ?_
  refine hV.iconst (v := 0) dX5_undo_12 (by decide) ?_
  refine hV.putf dX5_undo_13 fp_X5_35 M_o (Nat.le_of_ble_eq_true rfl) rfl rfl M_f0 ?_
  refine hV.aload_n 0 dX5_undo_16 rfl ?_
  refine hV.getf (v := .int 0) dX5_undo_17 fl_X5_35 M_o rfl ?_
  refine hV.if_le_t (tgt := 25) dX5_undo_20 (by decide) (by decide) ?_
  refine hV.aload_n 0 dX5_undo_25 rfl ?_
  refine hV.dup dX5_undo_26 rfl ?_
  refine hV.getf (v := .int (φ 1)) dX5_undo_27 fl_X5_43 M_o rfl ?_
  refine zTop (v := nI (k + 1)) hk ?_
  refine hV.iconst (v := 1) dX5_undo_30 (by decide) ?_
  refine hV.isub dX5_undo_31 ?_
  refine zTop (v := nI k) (nI_pred k) ?_
  refine hV.putf dX5_undo_32 fp_X5_43 M_o (Nat.le_of_ble_eq_true rfl) rfl rfl M_f1 ?_
  refine hV.iconst (v := 0) dX5_undo_35 (by decide) ?_
  refine hV.istore_n (ls2 := [(1, .int 0), (0, .ref b)]) dX5_undo_36 (by decide) rfl ?_
  refine zHeap (h2 := setM h b (va_up (va_up φ 0 0) 1 (nI k)) (sa μ 0 (cpF (μ 0) (μ 2) (175 * k) 0))) (by rw [cpF_0]; first | rw [sa_self] | exact congrArg (fun z => setM h b _ z) (sa_self _ 0).symm) ?_
  have loop : ∀ (r i : Nat) , i + r = 175 → V 37 [(1, .int (nI i)), (0, .ref b)] [] (setM h b (va_up (va_up φ 0 0) 1 (nI k)) (sa μ 0 (cpF (μ 0) (μ 2) (175 * k) i))) n 0 0 := by
    intro r
    induction r with
    | zero =>
      intro i  hi 
      refine hV.iload_n 0 dX5_undo_37 rfl ?_
      refine hV.sipush (v := 175) dX5_undo_38 (by decide) ?_
      refine hV.icmp_ge_t (tgt := 71) dX5_undo_41 (by decide) ((nI_leI (a := 175) (b := i) (by omega) (by omega)).mpr (by omega)) ?_
      refine hV.aload_n 1 dX5_undo_71 rfl ?_
      refine hV.getf (v := .int (nI k)) dX5_undo_72 fl_X5_43 M_o rfl ?_
      exact hE.1 dX5_undo_75 rfl rfl (by decide) (by decide) (zRi rfl (by have e : i = 175 := (by omega); subst e; rfl) rfl)
    | succ r ih =>
      intro i  hi 
      refine hV.iload_n 0 dX5_undo_37 rfl ?_
      refine hV.sipush (v := 175) dX5_undo_38 (by decide) ?_
      refine hV.icmp_ge_f (tgt := 71) dX5_undo_41 (by decide) (fun q => absurd ((nI_leI (a := 175) (b := i) (by omega) (by omega)).mp q) (by omega)) ?_
      refine hV.aload_n 1 dX5_undo_44 rfl ?_
      refine hV.getf (v := .ref (b + 1)) dX5_undo_45 fl_X5_7 M_o rfl ?_
      refine hV.iload_n 0 dX5_undo_48 rfl ?_
      refine hV.aload_n 1 dX5_undo_49 rfl ?_
      refine hV.getf (v := .ref (b + 3)) dX5_undo_50 fl_X5_16 M_o rfl ?_
      refine hV.sipush (v := 175) dX5_undo_53 (by decide) ?_
      refine hV.aload_n 1 dX5_undo_56 rfl ?_
      refine hV.getf (v := .int (nI k)) dX5_undo_57 fl_X5_43 M_o rfl ?_
      refine hV.imulN (a := 175) (b := k) dX5_undo_60 ?_
      refine hV.iload_n 0 dX5_undo_61 rfl ?_
      refine hV.iaddN (a := 175 * k) (b := i) dX5_undo_62 ?_
      refine hV.iald (j := (175 * k) + i) dX5_undo_63 M_a2 (zix_nI (by omega)) (by omega) ?_
      refine zTop (v := μ 2 ((175 * k) + i)) rfl ?_
      refine hV.iast (j := i) dX5_undo_64 M_a0 (zix_nI (by omega)) (by omega) M_p0 ?_
      refine hV.iinc 0 (v := nI (i + 1)) (ls2 := [(1, .int (nI (i + 1))), (0, .ref b)]) dX5_undo_65 rfl (nI_1 _) (by decide) rfl ?_
      refine hV.goto (tgt := 37) dX5_undo_68 (by decide) ?_
      refine zHeap (h2 := setM h b (va_up (va_up φ 0 0) 1 (nI k)) (sa μ 0 (va_up (cpF (μ 0) (μ 2) (175 * k) i) i (μ 2 ((175 * k) + i))))) (by simp only [up2_sa, sa_z, sa_at]; try rfl) ?_
      refine zHeap (h2 := setM h b (va_up (va_up φ 0 0) 1 (nI k)) (sa μ 0 (cpF (μ 0) (μ 2) (175 * k) (i + 1)))) (by rw [cpF_s]) ?_
      exact ih (i + 1) (by omega)
  exact loop (175) 0 (by omega)

set_option maxRecDepth 100000 in
set_option maxHeartbeats 4000000 in
theorem c_X5_restore_x {l : Launch} {D : va_G} {base : Nat} (G : l.stackTraces = false) {h : zH} {n : Nat} {b : Nat} {μ : zB} {φ : Nat → Int32} (hk : φ 2 = 0) :
    zCt l D base 2 yX5_restore w_X5_restore [.ref b] (setM h b φ μ) n 0 0 (zR (some (.int 0)) (setM h b (va_up φ 0 1) μ) n) := by
  refine zCt.of G (by decide) (Nat.le_of_ble_eq_true rfl) (fun Sx V X hV hE hX => ?_)
  show V 0 [(0, .ref b)] [] (setM h b φ μ) n 0 0
  refine hV.aload_n 0 dX5_restore_0 rfl ?_
  refine hV.aload_n 0 dX5_restore_1 rfl ?_
  refine hV.getf (v := .int (φ 2)) dX5_restore_2 fl_X5_46 M_o rfl ?_
  refine hV.if_eq_t (tgt := 12) dX5_restore_5 (by decide) hk ?_
  refine hV.iconst (v := 1) dX5_restore_12 (by decide) ?_
  refine hV.putf dX5_restore_13 fp_X5_35 M_o (Nat.le_of_ble_eq_true rfl) rfl rfl M_f0 ?_
  refine hV.aload_n 0 dX5_restore_16 rfl ?_
  refine hV.getf (v := .int 1) dX5_restore_17 fl_X5_35 M_o rfl ?_
  refine hV.if_le_f (tgt := 25) dX5_restore_20 (by decide) (by decide) ?_
  refine hV.iconst (v := 0) dX5_restore_23 (by decide) ?_
  exact hE.1 dX5_restore_24 rfl rfl (by decide) (by decide) (zRi rfl rfl rfl)

set_option maxRecDepth 100000 in
set_option maxHeartbeats 4000000 in
theorem c_X5_restore {l : Launch} {D : va_G} {base : Nat} (G : l.stackTraces = false) {h : zH} {n : Nat} {b : Nat} {μ : zB} {φ : Nat → Int32} {k : Nat} (hk : φ 1 = nI k) (hk6 : k ≤ 6) (h2 : ¬ φ 2 = 0) :
    zCt l D base 2 yX5_restore w_X5_restore [.ref b] (setM h b φ μ) n 0 0 (zR (some (.int (cpz (μ 0) (μ 3) 175 1))) (setM h b (va_up (va_up φ 0 0) 1 (nI (recK k))) (sa (sa μ 2 (recF (μ 2) (μ 0) k)) 0 (cpz (μ 0) (μ 3) 175))) n) := by
  refine zCt.of G (by decide) (Nat.le_of_ble_eq_true rfl) (fun Sx V X hV hE hX => ?_)
  show V 0 [(0, .ref b)] [] (setM h b φ μ) n 0 0
  refine hV.aload_n 0 dX5_restore_0 rfl ?_
  refine hV.aload_n 0 dX5_restore_1 rfl ?_
  refine hV.getf (v := .int (φ 2)) dX5_restore_2 fl_X5_46 M_o rfl ?_
  refine hV.if_eq_f (tgt := 12) dX5_restore_5 (by decide) h2 ?_
  refine hV.iconst (v := 0) dX5_restore_8 (by decide) ?_
  refine hV.goto (tgt := 13) dX5_restore_9 (by decide) ?_
  refine hV.putf dX5_restore_13 fp_X5_35 M_o (Nat.le_of_ble_eq_true rfl) rfl rfl M_f0 ?_
  refine hV.aload_n 0 dX5_restore_16 rfl ?_
  refine hV.getf (v := .int 0) dX5_restore_17 fl_X5_35 M_o rfl ?_
  refine hV.if_le_t (tgt := 25) dX5_restore_20 (by decide) (by decide) ?_
  refine hV.aload_n 0 dX5_restore_25 rfl ?_
  refine hV.callV1 (rest := []) dX5_restore_26 (c_X5_record G (k := k) hk hk6) my_X5_record kv_X5_50 M_o rfl rfl rfl (Nat.le_of_ble_eq_true rfl) (Nat.le_of_ble_eq_true rfl) (Nat.le_of_ble_eq_true rfl) (Nat.le_of_ble_eq_true rfl) (Nat.le_of_ble_eq_true rfl) (st2 := []) (k2 := 0) (g2 := 0) rfl rfl rfl ?_
  refine zHeap (h2 := setM h b (va_up (va_up φ 0 0) 1 (nI (recK k))) (sa μ 2 (recF (μ 2) (μ 0) k))) rfl ?_
  refine hV.iconst (v := 0) dX5_restore_29 (by decide) ?_
  refine hV.istore_n (ls2 := [(1, .int 0), (0, .ref b)]) dX5_restore_30 (by decide) rfl ?_
  refine zHeap (h2 := setM h b (va_up (va_up φ 0 0) 1 (nI (recK k))) (sa (sa μ 2 (recF (μ 2) (μ 0) k)) 0 (cpz (μ 0) (μ 3) 0))) (by rw [cpz_0]; first | rw [sa_self] | exact congrArg (fun z => setM h b _ z) (sa_self _ 0).symm) ?_
  have loop : ∀ (r i : Nat) , i + r = 175 → V 31 [(1, .int (nI i)), (0, .ref b)] [] (setM h b (va_up (va_up φ 0 0) 1 (nI (recK k))) (sa (sa μ 2 (recF (μ 2) (μ 0) k)) 0 (cpz (μ 0) (μ 3) i))) n 0 0 := by
    intro r
    induction r with
    | zero =>
      intro i  hi 
      refine hV.iload_n 0 dX5_restore_31 rfl ?_
      refine hV.sipush (v := 175) dX5_restore_32 (by decide) ?_
      refine hV.icmp_ge_t (tgt := 56) dX5_restore_35 (by decide) ((nI_leI (a := 175) (b := i) (by omega) (by omega)).mpr (by omega)) ?_
      refine hV.aload_n 1 dX5_restore_56 rfl ?_
      refine hV.getf (v := .ref (b + 1)) dX5_restore_57 fl_X5_7 M_o rfl ?_
      refine hV.iconst (v := 1) dX5_restore_60 (by decide) ?_
      refine hV.iald (j := 1) dX5_restore_61 M_a0 ⟨by decide, by decide⟩ (by decide) ?_
      refine zTop (v := (cpz (μ 0) (μ 3) i) 1) (congrFun (sa_at _ _ _) _) ?_
      exact hE.1 dX5_restore_62 rfl rfl (by decide) (by decide) (zRi (by have e : i = 175 := (by omega); subst e; rfl) (by have e : i = 175 := (by omega); subst e; rfl) rfl)
    | succ r ih =>
      intro i  hi 
      refine hV.iload_n 0 dX5_restore_31 rfl ?_
      refine hV.sipush (v := 175) dX5_restore_32 (by decide) ?_
      refine hV.icmp_ge_f (tgt := 56) dX5_restore_35 (by decide) (fun q => absurd ((nI_leI (a := 175) (b := i) (by omega) (by omega)).mp q) (by omega)) ?_
      refine hV.aload_n 1 dX5_restore_38 rfl ?_
      refine hV.getf (v := .ref (b + 1)) dX5_restore_39 fl_X5_7 M_o rfl ?_
      refine hV.iload_n 0 dX5_restore_42 rfl ?_
      refine hV.aload_n 1 dX5_restore_43 rfl ?_
      refine hV.getf (v := .ref (b + 4)) dX5_restore_44 fl_X5_19 M_o rfl ?_
      refine hV.iload_n 0 dX5_restore_47 rfl ?_
      refine hV.iald (j := i) dX5_restore_48 M_a3 (zix_nI (by omega)) (by omega) ?_
      refine zTop (v := μ 3 i) rfl ?_
      refine hV.iast (j := i) dX5_restore_49 M_a0 (zix_nI (by omega)) (by omega) M_p0 ?_
      refine hV.iinc 0 (v := nI (i + 1)) (ls2 := [(1, .int (nI (i + 1))), (0, .ref b)]) dX5_restore_50 rfl (nI_1 _) (by decide) rfl ?_
      refine hV.goto (tgt := 31) dX5_restore_53 (by decide) ?_
      refine zHeap (h2 := setM h b (va_up (va_up φ 0 0) 1 (nI (recK k))) (sa (sa μ 2 (recF (μ 2) (μ 0) k)) 0 (va_up (cpz (μ 0) (μ 3) i) i (μ 3 i)))) (by simp only [up2_sa, sa_z, sa_at]; try rfl) ?_
      refine zHeap (h2 := setM h b (va_up (va_up φ 0 0) 1 (nI (recK k))) (sa (sa μ 2 (recF (μ 2) (μ 0) k)) 0 (cpz (μ 0) (μ 3) (i + 1)))) (by rw [cpz_s]) ?_
      exact ih (i + 1) (by omega)
  exact loop (175) 0 (by omega)

set_option maxRecDepth 100000 in
set_option maxHeartbeats 4000000 in
theorem c_X5_change {l : Launch} {D : va_G} {base : Nat} (G : l.stackTraces = false) {h : zH} {n : Nat} {b : Nat} {μ : zB} {φ : Nat → Int32} {k i : Nat} {v : Int32} (hk : φ 1 = nI k) (hk6 : k ≤ 6) (hi : i < 175) :
    zCt l D base 2 yX5_change w_X5_change [.ref b, .int (nI i), .int v] (setM h b φ μ) n 0 0 (zR (some (.int (μ 0 i))) (setM h b (va_up φ 1 (nI (recK k))) (sa (sa μ 2 (recF (μ 2) (μ 0) k)) 0 (va_up (μ 0) i v))) n) := by
  refine zCt.of G (by decide) (Nat.le_of_ble_eq_true rfl) (fun Sx V X hV hE hX => ?_)
  show V 0 [(0, .ref b), (1, .int (nI i)), (2, .int v)] [] (setM h b φ μ) n 0 0
  refine hV.aload_n 0 dX5_change_0 rfl ?_
  refine hV.callV1 (rest := []) dX5_change_1 (c_X5_record G (k := k) hk hk6) my_X5_record kv_X5_50 M_o rfl rfl rfl (Nat.le_of_ble_eq_true rfl) (Nat.le_of_ble_eq_true rfl) (Nat.le_of_ble_eq_true rfl) (Nat.le_of_ble_eq_true rfl) (Nat.le_of_ble_eq_true rfl) (st2 := []) (k2 := 0) (g2 := 0) rfl rfl rfl ?_
  refine zHeap (h2 := setM h b (va_up φ 1 (nI (recK k))) (sa μ 2 (recF (μ 2) (μ 0) k))) rfl ?_
  refine hV.aload_n 0 dX5_change_4 rfl ?_
  refine hV.getf (v := .ref (b + 1)) dX5_change_5 fl_X5_7 M_o rfl ?_
  refine hV.iload_n 1 dX5_change_8 rfl ?_
  refine hV.iald (j := i) dX5_change_9 M_a0 (zix_nI (by omega)) (by omega) ?_
  refine zTop (v := μ 0 i) rfl ?_
  refine hV.istore_n (ls2 := [(3, .int (μ 0 i)), (0, .ref b), (1, .int (nI i)), (2, .int v)]) dX5_change_10 (by decide) rfl ?_
  refine hV.aload_n 1 dX5_change_11 rfl ?_
  refine hV.getf (v := .ref (b + 1)) dX5_change_12 fl_X5_7 M_o rfl ?_
  refine hV.iload_n 2 dX5_change_15 rfl ?_
  refine hV.iload_n 3 dX5_change_16 rfl ?_
  refine hV.iast (j := i) dX5_change_17 M_a0 (zix_nI (by omega)) (by omega) M_p0 ?_
  refine hV.iload_n 0 dX5_change_18 rfl ?_
  exact hE.1 dX5_change_19 rfl rfl (by decide) (by decide) (zRi rfl (by rw [up2_sa]; rfl) rfl)

set_option maxRecDepth 100000 in
set_option maxHeartbeats 4000000 in
theorem c_X5_bentPins {l : Launch} {D : va_G} {base : Nat} (G : l.stackTraces = false) {h : zH} {n : Nat} {b : Nat} {μ : zB} {φ : Nat → Int32} :
    zCt l D base 2 yX5_bentPins w_X5_bentPins [.ref b] (setM h b φ μ) n 0 0 (zR (some (.int (bpN (μ 0) 56))) (setM h b φ μ) n) := by
  refine zCt.of G (by decide) (Nat.le_of_ble_eq_true rfl) (fun Sx V X hV hE hX => ?_)
  show V 0 [(0, .ref b)] [] (setM h b φ μ) n 0 0
  refine hV.iconst (v := 0) dX5_bentPins_0 (by decide) ?_
  refine hV.istore_n (ls2 := [(1, .int 0), (0, .ref b)]) dX5_bentPins_1 (by decide) rfl ?_
  refine hV.iconst (v := 0) dX5_bentPins_2 (by decide) ?_
  refine hV.istore_n (ls2 := [(2, .int 0), (1, .int 0), (0, .ref b)]) dX5_bentPins_3 (by decide) rfl ?_
  have loop : ∀ (r i : Nat) (s : Int32), i + r = 56 → (s = bpN (μ 0) i) → V 4 [(2, .int (nI i)), (1, .int s), (0, .ref b)] [] (setM h b φ μ) n 0 0 := by
    intro r
    induction r with
    | zero =>
      intro i s hi hs
      refine hV.iload_n 0 dX5_bentPins_4 rfl ?_
      refine hV.bipush (v := 56) dX5_bentPins_5 (by decide) ?_
      refine hV.icmp_ge_t (tgt := 32) dX5_bentPins_7 (by decide) ((nI_leI (a := 56) (b := i) (by omega) (by omega)).mpr (by omega)) ?_
      refine hV.iload_n 1 dX5_bentPins_32 rfl ?_
      exact hE.1 dX5_bentPins_33 rfl rfl (by decide) (by decide) (zRi (by have e : i = 56 := (by omega); subst e; exact hs) rfl rfl)
    | succ r ih =>
      intro i s hi hs
      refine hV.iload_n 0 dX5_bentPins_4 rfl ?_
      refine hV.bipush (v := 56) dX5_bentPins_5 (by decide) ?_
      refine hV.icmp_ge_f (tgt := 32) dX5_bentPins_7 (by decide) (fun q => absurd ((nI_leI (a := 56) (b := i) (by omega) (by omega)).mp q) (by omega)) ?_
      refine hV.iload_n 1 dX5_bentPins_10 rfl ?_
      refine hV.aload_n 2 dX5_bentPins_11 rfl ?_
      refine hV.iload_n 0 dX5_bentPins_12 rfl ?_
      refine hV.callV1 (rest := [.int s]) dX5_bentPins_13 (c_X5_lean G (i := i) (by omega)) my_X5_lean kv_X5_53 M_o rfl rfl rfl (Nat.le_of_ble_eq_true rfl) (Nat.le_of_ble_eq_true rfl) (Nat.le_of_ble_eq_true rfl) (Nat.le_of_ble_eq_true rfl) (Nat.le_of_ble_eq_true rfl) (st2 := [.int ((μ 0) (20 + i)), .int s]) (k2 := 0) (g2 := 0) rfl rfl rfl ?_
      by_cases c16_1 : ((μ 0) (20 + i)) = 0
      · refine hV.if_eq_t (tgt := 23) dX5_bentPins_16 (by decide) c16_1 ?_
        refine hV.iconst (v := 0) dX5_bentPins_23 (by decide) ?_
        refine hV.iadd dX5_bentPins_24 ?_
        refine hV.istore_n (ls2 := [(1, .int (s + 0)), (2, .int (nI i)), (0, .ref b)]) dX5_bentPins_25 (by decide) rfl ?_
        refine hV.iinc 1 (v := nI (i + 1)) (ls2 := [(2, .int (nI (i + 1))), (1, .int (s + 0)), (0, .ref b)]) dX5_bentPins_26 rfl (nI_1 _) (by decide) rfl ?_
        refine hV.goto (tgt := 4) dX5_bentPins_29 (by decide) ?_
        exact ih (i + 1) _ (by omega) (by rw [hs]; simp [bpN, c16_1])
      · refine hV.if_eq_f (tgt := 23) dX5_bentPins_16 (by decide) c16_1 ?_
        refine hV.iconst (v := 1) dX5_bentPins_19 (by decide) ?_
        refine hV.goto (tgt := 24) dX5_bentPins_20 (by decide) ?_
        refine hV.iadd dX5_bentPins_24 ?_
        refine hV.istore_n (ls2 := [(1, .int (s + 1)), (2, .int (nI i)), (0, .ref b)]) dX5_bentPins_25 (by decide) rfl ?_
        refine hV.iinc 1 (v := nI (i + 1)) (ls2 := [(2, .int (nI (i + 1))), (1, .int (s + 1)), (0, .ref b)]) dX5_bentPins_26 rfl (nI_1 _) (by decide) rfl ?_
        refine hV.goto (tgt := 4) dX5_bentPins_29 (by decide) ?_
        exact ih (i + 1) _ (by omega) (by rw [hs]; simp [bpN, c16_1])
  exact loop (56) 0 _ (by omega) rfl

set_option maxRecDepth 100000 in
set_option maxHeartbeats 4000000 in
theorem c_X5_bentAt {l : Launch} {D : va_G} {base : Nat} (G : l.stackTraces = false) {h : zH} {n : Nat} {b : Nat} {μ : zB} {φ : Nat → Int32} {place : Int32} :
    zCt l D base 2 yX5_bentAt w_X5_bentAt [.ref b, .int place] (setM h b φ μ) n 0 0 (zR (some (.int (baN (μ 0) place 56))) (setM h b φ μ) n) := by
  refine zCt.of G (by decide) (Nat.le_of_ble_eq_true rfl) (fun Sx V X hV hE hX => ?_)
  show V 0 [(0, .ref b), (1, .int place)] [] (setM h b φ μ) n 0 0
  refine hV.iconst (v := (-1)) dX5_bentAt_0 (by decide) ?_
  refine hV.istore_n (ls2 := [(2, .int (-1)), (0, .ref b), (1, .int place)]) dX5_bentAt_1 (by decide) rfl ?_
  refine hV.iconst (v := 0) dX5_bentAt_2 (by decide) ?_
  refine hV.istore_n (ls2 := [(3, .int 0), (2, .int (-1)), (0, .ref b), (1, .int place)]) dX5_bentAt_3 (by decide) rfl ?_
  have loop : ∀ (r k : Nat) (fd : Int32), k + r = 56 → (fd = baN (μ 0) place k) → V 4 [(3, .int (nI k)), (2, .int fd), (0, .ref b), (1, .int place)] [] (setM h b φ μ) n 0 0 := by
    intro r
    induction r with
    | zero =>
      intro k fd hk hf
      refine hV.iload_n 0 dX5_bentAt_4 rfl ?_
      refine hV.bipush (v := 56) dX5_bentAt_5 (by decide) ?_
      refine hV.icmp_ge_t (tgt := 96) dX5_bentAt_7 (by decide) ((nI_leI (a := 56) (b := k) (by omega) (by omega)).mpr (by omega)) ?_
      refine hV.iload_n 1 dX5_bentAt_96 rfl ?_
      exact hE.1 dX5_bentAt_97 rfl rfl (by decide) (by decide) (zRi (by have e : k = 56 := (by omega); subst e; exact hf) rfl rfl)
    | succ r ih =>
      intro k fd hk hf
      refine hV.iload_n 0 dX5_bentAt_4 rfl ?_
      refine hV.bipush (v := 56) dX5_bentAt_5 (by decide) ?_
      refine hV.icmp_ge_f (tgt := 96) dX5_bentAt_7 (by decide) (fun q => absurd ((nI_leI (a := 56) (b := k) (by omega) (by omega)).mp q) (by omega)) ?_
      refine hV.iconst (v := 0) dX5_bentAt_10 (by decide) ?_
      refine hV.istore (ls2 := [(4, .int 0), (3, .int (nI k)), (2, .int fd), (0, .ref b), (1, .int place)]) dX5_bentAt_11 (by decide) rfl ?_
      refine hV.iconst (v := 0) dX5_bentAt_13 (by decide) ?_
      refine hV.istore (ls2 := [(5, .int 0), (4, .int 0), (3, .int (nI k)), (2, .int fd), (0, .ref b), (1, .int place)]) dX5_bentAt_14 (by decide) rfl ?_
      have loop2 : ∀ (r2 o : Nat) (ah : Int32), o + r2 = 56 → (ah = ahN (μ 0) k o) → V 16 [(5, .int (nI o)), (4, .int ah), (3, .int (nI k)), (2, .int fd), (0, .ref b), (1, .int place)] [] (setM h b φ μ) n 0 0 := by
        intro r2
        induction r2 with
        | zero =>
          intro o ah ho ha
          have e56 : o = 56 := by omega
          rw [e56] at ha
          refine hV.iload 0 dX5_bentAt_16 rfl ?_
          refine hV.bipush (v := 56) dX5_bentAt_18 (by decide) ?_
          refine hV.icmp_ge_t (tgt := 70) dX5_bentAt_20 (by decide) ((nI_leI (a := 56) (b := o) (by omega) (by omega)).mpr (by omega)) ?_
          refine hV.aload_n 4 dX5_bentAt_70 rfl ?_
          refine hV.iload_n 2 dX5_bentAt_71 rfl ?_
          refine hV.callV1 (rest := []) dX5_bentAt_72 (c_X5_lean G (i := k) (by omega)) my_X5_lean kv_X5_53 M_o rfl rfl rfl (Nat.le_of_ble_eq_true rfl) (Nat.le_of_ble_eq_true rfl) (Nat.le_of_ble_eq_true rfl) (Nat.le_of_ble_eq_true rfl) (Nat.le_of_ble_eq_true rfl) (st2 := [.int ((μ 0) (20 + k))]) (k2 := 0) (g2 := 0) rfl rfl rfl ?_
          by_cases c75_1 : ((μ 0) (20 + k)) = 0
          · refine hV.if_eq_t (tgt := 88) dX5_bentAt_75 (by decide) c75_1 ?_
            refine hV.iload_n 3 dX5_bentAt_88 rfl ?_
            refine hV.istore_n (ls2 := [(2, .int fd), (5, .int (nI o)), (4, .int ah), (3, .int (nI k)), (0, .ref b), (1, .int place)]) dX5_bentAt_89 (by decide) rfl ?_
            refine hV.iinc 3 (v := nI (k + 1)) (ls2 := [(3, .int (nI (k + 1))), (2, .int fd), (5, .int (nI o)), (4, .int ah), (0, .ref b), (1, .int place)]) dX5_bentAt_90 rfl (nI_1 _) (by decide) rfl ?_
            refine hV.goto (tgt := 4) dX5_bentAt_93 (by decide) ?_
            refine hV.pick [0, 1, 4, 5] (ls2 := [(3, .int (nI (k + 1))), (2, .int fd), (0, .ref b), (1, .int place)]) rfl ?_
            exact ih (k + 1) _ (by omega) (by (try rw [hf]); simp only [baN]; rw [if_pos c75_1])
          · refine hV.if_eq_f (tgt := 88) dX5_bentAt_75 (by decide) c75_1 ?_
            refine hV.iload 1 dX5_bentAt_78 rfl ?_
            refine hV.iload_n 5 dX5_bentAt_80 rfl ?_
            by_cases c81_2 : ah = place
            · refine hV.icmp_ne_f (tgt := 88) dX5_bentAt_81 (by decide) c81_2 ?_
              refine hV.iload_n 2 dX5_bentAt_84 rfl ?_
              refine hV.goto (tgt := 89) dX5_bentAt_85 (by decide) ?_
              refine hV.istore_n (ls2 := [(2, .int (nI k)), (5, .int (nI o)), (4, .int ah), (3, .int (nI k)), (0, .ref b), (1, .int place)]) dX5_bentAt_89 (by decide) rfl ?_
              refine hV.iinc 3 (v := nI (k + 1)) (ls2 := [(3, .int (nI (k + 1))), (2, .int (nI k)), (5, .int (nI o)), (4, .int ah), (0, .ref b), (1, .int place)]) dX5_bentAt_90 rfl (nI_1 _) (by decide) rfl ?_
              refine hV.goto (tgt := 4) dX5_bentAt_93 (by decide) ?_
              refine hV.pick [0, 1, 4, 5] (ls2 := [(3, .int (nI (k + 1))), (2, .int (nI k)), (0, .ref b), (1, .int place)]) rfl ?_
              exact ih (k + 1) _ (by omega) (by (try rw [hf]); simp only [baN]; rw [if_neg c75_1, if_pos (by rw [← ha]; exact c81_2)])
            · refine hV.icmp_ne_t (tgt := 88) dX5_bentAt_81 (by decide) c81_2 ?_
              refine hV.iload_n 3 dX5_bentAt_88 rfl ?_
              refine hV.istore_n (ls2 := [(2, .int fd), (5, .int (nI o)), (4, .int ah), (3, .int (nI k)), (0, .ref b), (1, .int place)]) dX5_bentAt_89 (by decide) rfl ?_
              refine hV.iinc 3 (v := nI (k + 1)) (ls2 := [(3, .int (nI (k + 1))), (2, .int fd), (5, .int (nI o)), (4, .int ah), (0, .ref b), (1, .int place)]) dX5_bentAt_90 rfl (nI_1 _) (by decide) rfl ?_
              refine hV.goto (tgt := 4) dX5_bentAt_93 (by decide) ?_
              refine hV.pick [0, 1, 4, 5] (ls2 := [(3, .int (nI (k + 1))), (2, .int fd), (0, .ref b), (1, .int place)]) rfl ?_
              exact ih (k + 1) _ (by omega) (by (try rw [hf]); simp only [baN]; rw [if_neg c75_1, if_neg (by rw [← ha]; exact c81_2)])
        | succ r2 ih =>
          intro o ah ho ha
          refine hV.iload 0 dX5_bentAt_16 rfl ?_
          refine hV.bipush (v := 56) dX5_bentAt_18 (by decide) ?_
          refine hV.icmp_ge_f (tgt := 70) dX5_bentAt_20 (by decide) (fun q => absurd ((nI_leI (a := 56) (b := o) (by omega) (by omega)).mp q) (by omega)) ?_
          refine hV.iload 1 dX5_bentAt_23 rfl ?_
          refine hV.aload_n 4 dX5_bentAt_25 rfl ?_
          refine hV.iload 0 dX5_bentAt_26 rfl ?_
          refine hV.callV1 (rest := [.int ah]) dX5_bentAt_28 (c_X5_lean G (i := o) (by omega)) my_X5_lean kv_X5_53 M_o rfl rfl rfl (Nat.le_of_ble_eq_true rfl) (Nat.le_of_ble_eq_true rfl) (Nat.le_of_ble_eq_true rfl) (Nat.le_of_ble_eq_true rfl) (Nat.le_of_ble_eq_true rfl) (st2 := [.int ((μ 0) (20 + o)), .int ah]) (k2 := 0) (g2 := 0) rfl rfl rfl ?_
          by_cases c31_3 : ((μ 0) (20 + o)) = 0
          · refine hV.if_eq_t (tgt := 60) dX5_bentAt_31 (by decide) c31_3 ?_
            refine hV.iconst (v := 0) dX5_bentAt_60 (by decide) ?_
            refine hV.iadd dX5_bentAt_61 ?_
            refine hV.istore (ls2 := [(4, .int (ah + 0)), (5, .int (nI o)), (3, .int (nI k)), (2, .int fd), (0, .ref b), (1, .int place)]) dX5_bentAt_62 (by decide) rfl ?_
            refine hV.iinc 1 (v := nI (o + 1)) (ls2 := [(5, .int (nI (o + 1))), (4, .int (ah + 0)), (3, .int (nI k)), (2, .int fd), (0, .ref b), (1, .int place)]) dX5_bentAt_64 rfl (nI_1 _) (by decide) rfl ?_
            refine hV.goto (tgt := 16) dX5_bentAt_67 (by decide) ?_
            exact ih (o + 1) _ (by omega) (by rw [ha]; simp [ahN, c31_3])
          · refine hV.if_eq_f (tgt := 60) dX5_bentAt_31 (by decide) c31_3 ?_
            refine hV.aload_n 4 dX5_bentAt_34 rfl ?_
            refine hV.getf (v := .ref (b + 1)) dX5_bentAt_35 fl_X5_7 M_o rfl ?_
            refine hV.bipush (v := 76) dX5_bentAt_38 (by decide) ?_
            refine hV.iload 0 dX5_bentAt_40 rfl ?_
            refine hV.iaddN (a := 76) (b := o) dX5_bentAt_42 ?_
            refine hV.iald (j := 76 + o) dX5_bentAt_43 M_a0 (zix_nI (by omega)) (by omega) ?_
            refine hV.aload_n 4 dX5_bentAt_44 rfl ?_
            refine hV.getf (v := .ref (b + 1)) dX5_bentAt_45 fl_X5_7 M_o rfl ?_
            refine hV.bipush (v := 76) dX5_bentAt_48 (by decide) ?_
            refine hV.iload_n 2 dX5_bentAt_50 rfl ?_
            refine hV.iaddN (a := 76) (b := k) dX5_bentAt_51 ?_
            refine hV.iald (j := 76 + k) dX5_bentAt_52 M_a0 (zix_nI (by omega)) (by omega) ?_
            by_cases c53_4 : (μ 0 (76 + k)) ≤ (μ 0 (76 + o))
            · refine hV.icmp_ge_t (tgt := 60) dX5_bentAt_53 (by decide) c53_4 ?_
              refine hV.iconst (v := 0) dX5_bentAt_60 (by decide) ?_
              refine hV.iadd dX5_bentAt_61 ?_
              refine hV.istore (ls2 := [(4, .int (ah + 0)), (5, .int (nI o)), (3, .int (nI k)), (2, .int fd), (0, .ref b), (1, .int place)]) dX5_bentAt_62 (by decide) rfl ?_
              refine hV.iinc 1 (v := nI (o + 1)) (ls2 := [(5, .int (nI (o + 1))), (4, .int (ah + 0)), (3, .int (nI k)), (2, .int fd), (0, .ref b), (1, .int place)]) dX5_bentAt_64 rfl (nI_1 _) (by decide) rfl ?_
              refine hV.goto (tgt := 16) dX5_bentAt_67 (by decide) ?_
              exact ih (o + 1) _ (by omega) (by rw [ha]; simp [ahN, c31_3, c53_4])
            · refine hV.icmp_ge_f (tgt := 60) dX5_bentAt_53 (by decide) c53_4 ?_
              refine hV.iconst (v := 1) dX5_bentAt_56 (by decide) ?_
              refine hV.goto (tgt := 61) dX5_bentAt_57 (by decide) ?_
              refine hV.iadd dX5_bentAt_61 ?_
              refine hV.istore (ls2 := [(4, .int (ah + 1)), (5, .int (nI o)), (3, .int (nI k)), (2, .int fd), (0, .ref b), (1, .int place)]) dX5_bentAt_62 (by decide) rfl ?_
              refine hV.iinc 1 (v := nI (o + 1)) (ls2 := [(5, .int (nI (o + 1))), (4, .int (ah + 1)), (3, .int (nI k)), (2, .int fd), (0, .ref b), (1, .int place)]) dX5_bentAt_64 rfl (nI_1 _) (by decide) rfl ?_
              refine hV.goto (tgt := 16) dX5_bentAt_67 (by decide) ?_
              exact ih (o + 1) _ (by omega) (by rw [ha]; simp [ahN, c31_3, c53_4])
      exact loop2 (56) 0 _ (by omega) rfl
  exact loop (56) 0 _ (by omega) rfl

set_option maxRecDepth 100000 in
set_option maxHeartbeats 4000000 in
theorem c_X5_pocketNow {l : Launch} {D : va_G} {base : Nat} (G : l.stackTraces = false) {h : zH} {n : Nat} {b : Nat} {μ : zB} {φ : Nat → Int32} {p w : Nat} (hp : p < 7) (hw : w < 5) :
    zCt l D base 3 yX5_pocketNow w_X5_pocketNow [.ref b, .int (nI p), .int (nI w)] (setM h b φ μ) n 0 0 (zR (some (.int (pkN (μ 0) p w))) (setM h b φ μ) n) := by
  refine zCt.of G (by decide) (Nat.le_of_ble_eq_true rfl) (fun Sx V X hV hE hX => ?_)
  show V 0 [(0, .ref b), (1, .int (nI p)), (2, .int (nI w))] [] (setM h b φ μ) n 0 0
  refine hV.iload_n 2 dX5_pocketNow_0 rfl ?_
  refine hV.iconst (v := 2) dX5_pocketNow_1 (by decide) ?_
  by_cases c2_1 : w = 2
  · refine hV.icmp_ne_f (tgt := 21) dX5_pocketNow_2 (by decide) ((nI_eq (a := w) (b := 2) (by omega) (by omega)).mpr c2_1) ?_
    refine hV.aload_n 0 dX5_pocketNow_5 rfl ?_
    refine hV.iload_n 1 dX5_pocketNow_6 rfl ?_
    refine hV.callV1 (rest := []) dX5_pocketNow_7 (c_X5_isOpen G (p := p) (by omega)) my_X5_isOpen kv_X5_88 M_o rfl rfl rfl (Nat.le_of_ble_eq_true rfl) (Nat.le_of_ble_eq_true rfl) (Nat.le_of_ble_eq_true rfl) (Nat.le_of_ble_eq_true rfl) (Nat.le_of_ble_eq_true rfl) (st2 := [.int (isOpenZ (μ 0) p)]) (k2 := 0) (g2 := 0) rfl rfl rfl ?_
    by_cases c10_2 : (isOpenZ (μ 0) p) = 0
    · refine hV.if_eq_t (tgt := 17) dX5_pocketNow_10 (by decide) c10_2 ?_
      refine hV.iconst (v := 0) dX5_pocketNow_17 (by decide) ?_
      refine hV.goto (tgt := 27) dX5_pocketNow_18 (by decide) ?_
      exact hE.1 dX5_pocketNow_27 rfl rfl (by decide) (by decide) (zRi (by first | (simp [pkN, c2_1, c10_2]; done) | (simp only [pkN, if_pos (show w = 2 by omega)]; first | exact (isOpenZ_1 (by assumption)).symm | (symm; assumption))) rfl rfl)
    · refine hV.if_eq_f (tgt := 17) dX5_pocketNow_10 (by decide) c10_2 ?_
      refine hV.iconst (v := 1) dX5_pocketNow_13 (by decide) ?_
      refine hV.goto (tgt := 27) dX5_pocketNow_14 (by decide) ?_
      exact hE.1 dX5_pocketNow_27 rfl rfl (by decide) (by decide) (zRi (by first | (simp [pkN, c2_1, c10_2]; done) | (simp only [pkN, if_pos (show w = 2 by omega)]; first | exact (isOpenZ_1 (by assumption)).symm | (symm; assumption))) rfl rfl)
  · refine hV.icmp_ne_t (tgt := 21) dX5_pocketNow_2 (by decide) (fun q => absurd ((nI_eq (a := w) (b := 2) (by omega) (by omega)).mp q) c2_1) ?_
    refine hV.aload_n 0 dX5_pocketNow_21 rfl ?_
    refine hV.iload_n 1 dX5_pocketNow_22 rfl ?_
    refine hV.iload_n 2 dX5_pocketNow_23 rfl ?_
    refine hV.callV1 (rest := []) dX5_pocketNow_24 (c_X5_of G (p := p) (w := w) (by omega) (by omega)) my_X5_of kv_X5_68 M_o rfl rfl rfl (Nat.le_of_ble_eq_true rfl) (Nat.le_of_ble_eq_true rfl) (Nat.le_of_ble_eq_true rfl) (Nat.le_of_ble_eq_true rfl) (Nat.le_of_ble_eq_true rfl) (st2 := [.int ((μ 0) (132 + 5 * p + w))]) (k2 := 0) (g2 := 0) rfl rfl rfl ?_
    exact hE.1 dX5_pocketNow_27 rfl rfl (by decide) (by decide) (zRi (by first | (simp [pkN, c2_1]; done) | (simp only [pkN, if_pos (show w = 2 by omega)]; first | exact (isOpenZ_1 (by assumption)).symm | (symm; assumption))) rfl rfl)

set_option maxRecDepth 100000 in
set_option maxHeartbeats 4000000 in
theorem c_X5_countNow {l : Launch} {D : va_G} {base : Nat} (G : l.stackTraces = false) {h : zH} {n : Nat} {b : Nat} {μ : zB} {φ : Nat → Int32} {k w : Nat} (hk : φ 1 = nI k) (hw : w < 18) :
    zCt l D base 3 yX5_countNow w_X5_countNow [.ref b, .int (nI w)] (setM h b φ μ) n 0 0 (zR (some (.int (cnN (μ 0) k w))) (setM h b φ μ) n) := by
  refine zCt.of G (by decide) (Nat.le_of_ble_eq_true rfl) (fun Sx V X hV hE hX => ?_)
  show V 0 [(0, .ref b), (1, .int (nI w))] [] (setM h b φ μ) n 0 0
  rcases (show w = 0 ∨ w = 1 ∨ w = 2 ∨ w = 3 ∨ w = 4 ∨ w = 5 ∨ w = 6 ∨ w = 7 ∨ w = 8 ∨ w = 9 ∨ w = 10 ∨ w = 11 ∨ w = 12 ∨ w = 13 ∨ w = 14 ∨ w = 15 ∨ w = 16 ∨ w = 17 by omega) with rfl | rfl | rfl | rfl | rfl | rfl | rfl | rfl | rfl | rfl | rfl | rfl | rfl | rfl | rfl | rfl | rfl | rfl
  · skip
    show V 0 [(0, .ref b), (1, .int 0)] [] (setM h b φ μ) n 0 0
    refine hV.iload_n 1 dX5_countNow_0 rfl ?_
    refine hV.tblin (off := 83) (tgt := 84) dX5_countNow_1 (by decide) (by decide) (by decide) (by decide) ?_
    refine hV.aload_n 0 dX5_countNow_84 rfl ?_
    refine hV.getf (v := .ref (b + 1)) dX5_countNow_85 fl_X5_7 M_o rfl ?_
    refine hV.iconst (v := 1) dX5_countNow_88 (by decide) ?_
    refine hV.iload_n 1 dX5_countNow_89 rfl ?_
    refine hV.iadd dX5_countNow_90 ?_
    refine zTop (v := 1) (by decide) ?_
    refine hV.iald (j := 1) dX5_countNow_91 M_a0 ⟨by decide, by decide⟩ (by decide) ?_
    exact hE.1 dX5_countNow_92 rfl rfl (by decide) (by decide) (zRi (by first | rfl | exact hk) rfl rfl)
  · skip
    show V 0 [(0, .ref b), (1, .int 1)] [] (setM h b φ μ) n 0 0
    refine hV.iload_n 1 dX5_countNow_0 rfl ?_
    refine hV.tblin (off := 83) (tgt := 84) dX5_countNow_1 (by decide) (by decide) (by decide) (by decide) ?_
    refine hV.aload_n 0 dX5_countNow_84 rfl ?_
    refine hV.getf (v := .ref (b + 1)) dX5_countNow_85 fl_X5_7 M_o rfl ?_
    refine hV.iconst (v := 1) dX5_countNow_88 (by decide) ?_
    refine hV.iload_n 1 dX5_countNow_89 rfl ?_
    refine hV.iadd dX5_countNow_90 ?_
    refine zTop (v := 2) (by decide) ?_
    refine hV.iald (j := 2) dX5_countNow_91 M_a0 ⟨by decide, by decide⟩ (by decide) ?_
    exact hE.1 dX5_countNow_92 rfl rfl (by decide) (by decide) (zRi (by first | rfl | exact hk) rfl rfl)
  · skip
    show V 0 [(0, .ref b), (1, .int 2)] [] (setM h b φ μ) n 0 0
    refine hV.iload_n 1 dX5_countNow_0 rfl ?_
    refine hV.tblin (off := 83) (tgt := 84) dX5_countNow_1 (by decide) (by decide) (by decide) (by decide) ?_
    refine hV.aload_n 0 dX5_countNow_84 rfl ?_
    refine hV.getf (v := .ref (b + 1)) dX5_countNow_85 fl_X5_7 M_o rfl ?_
    refine hV.iconst (v := 1) dX5_countNow_88 (by decide) ?_
    refine hV.iload_n 1 dX5_countNow_89 rfl ?_
    refine hV.iadd dX5_countNow_90 ?_
    refine zTop (v := 3) (by decide) ?_
    refine hV.iald (j := 3) dX5_countNow_91 M_a0 ⟨by decide, by decide⟩ (by decide) ?_
    exact hE.1 dX5_countNow_92 rfl rfl (by decide) (by decide) (zRi (by first | rfl | exact hk) rfl rfl)
  · skip
    show V 0 [(0, .ref b), (1, .int 3)] [] (setM h b φ μ) n 0 0
    refine hV.iload_n 1 dX5_countNow_0 rfl ?_
    refine hV.tblin (off := 83) (tgt := 84) dX5_countNow_1 (by decide) (by decide) (by decide) (by decide) ?_
    refine hV.aload_n 0 dX5_countNow_84 rfl ?_
    refine hV.getf (v := .ref (b + 1)) dX5_countNow_85 fl_X5_7 M_o rfl ?_
    refine hV.iconst (v := 1) dX5_countNow_88 (by decide) ?_
    refine hV.iload_n 1 dX5_countNow_89 rfl ?_
    refine hV.iadd dX5_countNow_90 ?_
    refine zTop (v := 4) (by decide) ?_
    refine hV.iald (j := 4) dX5_countNow_91 M_a0 ⟨by decide, by decide⟩ (by decide) ?_
    exact hE.1 dX5_countNow_92 rfl rfl (by decide) (by decide) (zRi (by first | rfl | exact hk) rfl rfl)
  · skip
    show V 0 [(0, .ref b), (1, .int 4)] [] (setM h b φ μ) n 0 0
    refine hV.iload_n 1 dX5_countNow_0 rfl ?_
    refine hV.tblin (off := 83) (tgt := 84) dX5_countNow_1 (by decide) (by decide) (by decide) (by decide) ?_
    refine hV.aload_n 0 dX5_countNow_84 rfl ?_
    refine hV.getf (v := .ref (b + 1)) dX5_countNow_85 fl_X5_7 M_o rfl ?_
    refine hV.iconst (v := 1) dX5_countNow_88 (by decide) ?_
    refine hV.iload_n 1 dX5_countNow_89 rfl ?_
    refine hV.iadd dX5_countNow_90 ?_
    refine zTop (v := 5) (by decide) ?_
    refine hV.iald (j := 5) dX5_countNow_91 M_a0 ⟨by decide, by decide⟩ (by decide) ?_
    exact hE.1 dX5_countNow_92 rfl rfl (by decide) (by decide) (zRi (by first | rfl | exact hk) rfl rfl)
  · skip
    show V 0 [(0, .ref b), (1, .int 5)] [] (setM h b φ μ) n 0 0
    refine hV.iload_n 1 dX5_countNow_0 rfl ?_
    refine hV.tblin (off := 83) (tgt := 84) dX5_countNow_1 (by decide) (by decide) (by decide) (by decide) ?_
    refine hV.aload_n 0 dX5_countNow_84 rfl ?_
    refine hV.getf (v := .ref (b + 1)) dX5_countNow_85 fl_X5_7 M_o rfl ?_
    refine hV.iconst (v := 1) dX5_countNow_88 (by decide) ?_
    refine hV.iload_n 1 dX5_countNow_89 rfl ?_
    refine hV.iadd dX5_countNow_90 ?_
    refine zTop (v := 6) (by decide) ?_
    refine hV.iald (j := 6) dX5_countNow_91 M_a0 ⟨by decide, by decide⟩ (by decide) ?_
    exact hE.1 dX5_countNow_92 rfl rfl (by decide) (by decide) (zRi (by first | rfl | exact hk) rfl rfl)
  · skip
    show V 0 [(0, .ref b), (1, .int 6)] [] (setM h b φ μ) n 0 0
    refine hV.iload_n 1 dX5_countNow_0 rfl ?_
    refine hV.tblin (off := 83) (tgt := 84) dX5_countNow_1 (by decide) (by decide) (by decide) (by decide) ?_
    refine hV.aload_n 0 dX5_countNow_84 rfl ?_
    refine hV.getf (v := .ref (b + 1)) dX5_countNow_85 fl_X5_7 M_o rfl ?_
    refine hV.iconst (v := 1) dX5_countNow_88 (by decide) ?_
    refine hV.iload_n 1 dX5_countNow_89 rfl ?_
    refine hV.iadd dX5_countNow_90 ?_
    refine zTop (v := 7) (by decide) ?_
    refine hV.iald (j := 7) dX5_countNow_91 M_a0 ⟨by decide, by decide⟩ (by decide) ?_
    exact hE.1 dX5_countNow_92 rfl rfl (by decide) (by decide) (zRi (by first | rfl | exact hk) rfl rfl)
  · skip
    show V 0 [(0, .ref b), (1, .int 7)] [] (setM h b φ μ) n 0 0
    refine hV.iload_n 1 dX5_countNow_0 rfl ?_
    refine hV.tblin (off := 83) (tgt := 84) dX5_countNow_1 (by decide) (by decide) (by decide) (by decide) ?_
    refine hV.aload_n 0 dX5_countNow_84 rfl ?_
    refine hV.getf (v := .ref (b + 1)) dX5_countNow_85 fl_X5_7 M_o rfl ?_
    refine hV.iconst (v := 1) dX5_countNow_88 (by decide) ?_
    refine hV.iload_n 1 dX5_countNow_89 rfl ?_
    refine hV.iadd dX5_countNow_90 ?_
    refine zTop (v := 8) (by decide) ?_
    refine hV.iald (j := 8) dX5_countNow_91 M_a0 ⟨by decide, by decide⟩ (by decide) ?_
    exact hE.1 dX5_countNow_92 rfl rfl (by decide) (by decide) (zRi (by first | rfl | exact hk) rfl rfl)
  · skip
    show V 0 [(0, .ref b), (1, .int 8)] [] (setM h b φ μ) n 0 0
    refine hV.iload_n 1 dX5_countNow_0 rfl ?_
    refine hV.tblin (off := 83) (tgt := 84) dX5_countNow_1 (by decide) (by decide) (by decide) (by decide) ?_
    refine hV.aload_n 0 dX5_countNow_84 rfl ?_
    refine hV.getf (v := .ref (b + 1)) dX5_countNow_85 fl_X5_7 M_o rfl ?_
    refine hV.iconst (v := 1) dX5_countNow_88 (by decide) ?_
    refine hV.iload_n 1 dX5_countNow_89 rfl ?_
    refine hV.iadd dX5_countNow_90 ?_
    refine zTop (v := 9) (by decide) ?_
    refine hV.iald (j := 9) dX5_countNow_91 M_a0 ⟨by decide, by decide⟩ (by decide) ?_
    exact hE.1 dX5_countNow_92 rfl rfl (by decide) (by decide) (zRi (by first | rfl | exact hk) rfl rfl)
  · skip
    show V 0 [(0, .ref b), (1, .int 9)] [] (setM h b φ μ) n 0 0
    refine hV.iload_n 1 dX5_countNow_0 rfl ?_
    refine hV.tblin (off := 83) (tgt := 84) dX5_countNow_1 (by decide) (by decide) (by decide) (by decide) ?_
    refine hV.aload_n 0 dX5_countNow_84 rfl ?_
    refine hV.getf (v := .ref (b + 1)) dX5_countNow_85 fl_X5_7 M_o rfl ?_
    refine hV.iconst (v := 1) dX5_countNow_88 (by decide) ?_
    refine hV.iload_n 1 dX5_countNow_89 rfl ?_
    refine hV.iadd dX5_countNow_90 ?_
    refine zTop (v := 10) (by decide) ?_
    refine hV.iald (j := 10) dX5_countNow_91 M_a0 ⟨by decide, by decide⟩ (by decide) ?_
    exact hE.1 dX5_countNow_92 rfl rfl (by decide) (by decide) (zRi (by first | rfl | exact hk) rfl rfl)
  · skip
    show V 0 [(0, .ref b), (1, .int 10)] [] (setM h b φ μ) n 0 0
    refine hV.iload_n 1 dX5_countNow_0 rfl ?_
    refine hV.tblin (off := 83) (tgt := 84) dX5_countNow_1 (by decide) (by decide) (by decide) (by decide) ?_
    refine hV.aload_n 0 dX5_countNow_84 rfl ?_
    refine hV.getf (v := .ref (b + 1)) dX5_countNow_85 fl_X5_7 M_o rfl ?_
    refine hV.iconst (v := 1) dX5_countNow_88 (by decide) ?_
    refine hV.iload_n 1 dX5_countNow_89 rfl ?_
    refine hV.iadd dX5_countNow_90 ?_
    refine zTop (v := 11) (by decide) ?_
    refine hV.iald (j := 11) dX5_countNow_91 M_a0 ⟨by decide, by decide⟩ (by decide) ?_
    exact hE.1 dX5_countNow_92 rfl rfl (by decide) (by decide) (zRi (by first | rfl | exact hk) rfl rfl)
  · skip
    show V 0 [(0, .ref b), (1, .int 11)] [] (setM h b φ μ) n 0 0
    refine hV.iload_n 1 dX5_countNow_0 rfl ?_
    refine hV.tblin (off := 83) (tgt := 84) dX5_countNow_1 (by decide) (by decide) (by decide) (by decide) ?_
    refine hV.aload_n 0 dX5_countNow_84 rfl ?_
    refine hV.getf (v := .ref (b + 1)) dX5_countNow_85 fl_X5_7 M_o rfl ?_
    refine hV.iconst (v := 1) dX5_countNow_88 (by decide) ?_
    refine hV.iload_n 1 dX5_countNow_89 rfl ?_
    refine hV.iadd dX5_countNow_90 ?_
    refine zTop (v := 12) (by decide) ?_
    refine hV.iald (j := 12) dX5_countNow_91 M_a0 ⟨by decide, by decide⟩ (by decide) ?_
    exact hE.1 dX5_countNow_92 rfl rfl (by decide) (by decide) (zRi (by first | rfl | exact hk) rfl rfl)
  · skip
    show V 0 [(0, .ref b), (1, .int 12)] [] (setM h b φ μ) n 0 0
    refine hV.iload_n 1 dX5_countNow_0 rfl ?_
    refine hV.tblin (off := 83) (tgt := 84) dX5_countNow_1 (by decide) (by decide) (by decide) (by decide) ?_
    refine hV.aload_n 0 dX5_countNow_84 rfl ?_
    refine hV.getf (v := .ref (b + 1)) dX5_countNow_85 fl_X5_7 M_o rfl ?_
    refine hV.iconst (v := 1) dX5_countNow_88 (by decide) ?_
    refine hV.iload_n 1 dX5_countNow_89 rfl ?_
    refine hV.iadd dX5_countNow_90 ?_
    refine zTop (v := 13) (by decide) ?_
    refine hV.iald (j := 13) dX5_countNow_91 M_a0 ⟨by decide, by decide⟩ (by decide) ?_
    exact hE.1 dX5_countNow_92 rfl rfl (by decide) (by decide) (zRi (by first | rfl | exact hk) rfl rfl)
  · skip
    show V 0 [(0, .ref b), (1, .int 13)] [] (setM h b φ μ) n 0 0
    refine hV.iload_n 1 dX5_countNow_0 rfl ?_
    refine hV.tblin (off := 92) (tgt := 93) dX5_countNow_1 (by decide) (by decide) (by decide) (by decide) ?_
    refine hV.aload_n 0 dX5_countNow_93 rfl ?_
    refine hV.getf (v := .ref (b + 1)) dX5_countNow_94 fl_X5_7 M_o rfl ?_
    refine hV.iconst (v := 0) dX5_countNow_97 (by decide) ?_
    refine hV.iald (j := 0) dX5_countNow_98 M_a0 ⟨by decide, by decide⟩ (by decide) ?_
    exact hE.1 dX5_countNow_99 rfl rfl (by decide) (by decide) (zRi (by first | rfl | exact hk) rfl rfl)
  · skip
    show V 0 [(0, .ref b), (1, .int 14)] [] (setM h b φ μ) n 0 0
    refine hV.iload_n 1 dX5_countNow_0 rfl ?_
    refine hV.tblin (off := 99) (tgt := 100) dX5_countNow_1 (by decide) (by decide) (by decide) (by decide) ?_
    refine hV.aload_n 0 dX5_countNow_100 rfl ?_
    refine hV.getf (v := .ref (b + 1)) dX5_countNow_101 fl_X5_7 M_o rfl ?_
    refine hV.bipush (v := 14) dX5_countNow_104 (by decide) ?_
    refine hV.iload_n 1 dX5_countNow_106 rfl ?_
    refine hV.iadd dX5_countNow_107 ?_
    refine zTop (v := 28) (by decide) ?_
    refine hV.bipush (v := 14) dX5_countNow_108 (by decide) ?_
    refine hV.isub dX5_countNow_110 ?_
    refine zTop (v := 14) (by decide) ?_
    refine hV.iald (j := 14) dX5_countNow_111 M_a0 ⟨by decide, by decide⟩ (by decide) ?_
    exact hE.1 dX5_countNow_112 rfl rfl (by decide) (by decide) (zRi (by first | rfl | exact hk) rfl rfl)
  · skip
    show V 0 [(0, .ref b), (1, .int 15)] [] (setM h b φ μ) n 0 0
    refine hV.iload_n 1 dX5_countNow_0 rfl ?_
    refine hV.tblin (off := 99) (tgt := 100) dX5_countNow_1 (by decide) (by decide) (by decide) (by decide) ?_
    refine hV.aload_n 0 dX5_countNow_100 rfl ?_
    refine hV.getf (v := .ref (b + 1)) dX5_countNow_101 fl_X5_7 M_o rfl ?_
    refine hV.bipush (v := 14) dX5_countNow_104 (by decide) ?_
    refine hV.iload_n 1 dX5_countNow_106 rfl ?_
    refine hV.iadd dX5_countNow_107 ?_
    refine zTop (v := 29) (by decide) ?_
    refine hV.bipush (v := 14) dX5_countNow_108 (by decide) ?_
    refine hV.isub dX5_countNow_110 ?_
    refine zTop (v := 15) (by decide) ?_
    refine hV.iald (j := 15) dX5_countNow_111 M_a0 ⟨by decide, by decide⟩ (by decide) ?_
    exact hE.1 dX5_countNow_112 rfl rfl (by decide) (by decide) (zRi (by first | rfl | exact hk) rfl rfl)
  · skip
    show V 0 [(0, .ref b), (1, .int 16)] [] (setM h b φ μ) n 0 0
    refine hV.iload_n 1 dX5_countNow_0 rfl ?_
    refine hV.tblin (off := 112) (tgt := 113) dX5_countNow_1 (by decide) (by decide) (by decide) (by decide) ?_
    refine hV.aload_n 0 dX5_countNow_113 rfl ?_
    refine hV.callV1 (rest := []) dX5_countNow_114 (c_X5_bentPins G) my_X5_bentPins kv_X5_146 M_o rfl rfl rfl (Nat.le_of_ble_eq_true rfl) (Nat.le_of_ble_eq_true rfl) (Nat.le_of_ble_eq_true rfl) (Nat.le_of_ble_eq_true rfl) (Nat.le_of_ble_eq_true rfl) (st2 := [.int (bpN (μ 0) 56)]) (k2 := 0) (g2 := 0) rfl rfl rfl ?_
    exact hE.1 dX5_countNow_117 rfl rfl (by decide) (by decide) (zRi (by first | rfl | exact hk) rfl rfl)
  · skip
    show V 0 [(0, .ref b), (1, .int 17)] [] (setM h b φ μ) n 0 0
    refine hV.iload_n 1 dX5_countNow_0 rfl ?_
    refine hV.tblout (tgt := 118) dX5_countNow_1 (by decide) (by decide) ?_
    refine hV.aload_n 0 dX5_countNow_118 rfl ?_
    refine hV.getf (v := .int (φ 1)) dX5_countNow_119 fl_X5_43 M_o rfl ?_
    exact hE.1 dX5_countNow_122 rfl rfl (by decide) (by decide) (zRi (by first | rfl | exact hk) rfl rfl)
