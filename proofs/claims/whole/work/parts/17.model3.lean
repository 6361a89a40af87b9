/-! The reference, 3: rows saved and put back, counts -/
def bpN (z : zZ) : Nat → Int32
  | 0 => 0
  | k + 1 => bpN z k + (if z (20 + k) = 0 then 0 else 1)
def ahN (z : zZ) (k : Nat) : Nat → Int32
  | 0 => 0
  | o + 1 => ahN z k o + (if z (20 + o) = 0 then 0 else if z (76 + k) ≤ z (76 + o) then 0 else 1)
def baN (z : zZ) (place : Int32) : Nat → Int32
  | 0 => -1
  | k + 1 => if z (20 + k) = 0 then baN z place k else if ahN z k 56 = place then nI k else baN z place k
def pkN (z : zZ) (p w : Nat) : Int32 := if w = 2 then isOpenZ z p else z (132 + 5 * p + w)
def cnN (z : zZ) (k w : Nat) : Int32 := if w < 13 then z (1 + w) else if w = 13 then z 0 else if w < 16 then z w else if w = 16 then bpN z 56 else nI k

set_option maxRecDepth 100000 in
set_option maxHeartbeats 4000000 in
theorem c_X5_record_a {l : Launch} {D : va_G} {base : Nat} (G : l.stackTraces = false) {h : zH} {n : Nat} {b : Nat} {μ : zB} {φ : Nat → Int32} {k : Nat} (hk : φ 1 = nI k) (hk6 : k < 6) :
    zCt l D base 1 yX5_record w_X5_record [.ref b] (setM h b φ μ) n 0 0 (zR none (setM h b (va_up φ 1 (nI (recK k))) (sa μ 2 (recF (μ 2) (μ 0) k))) n) := by
  refine zCt.of G (by decide) (Nat.le_of_ble_eq_true rfl) (fun Sx V X hV hE hX => ?_)
  show V 0 [(0, .ref b)] [] (setM h b φ μ) n 0 0
  refine hV.aload_n 0 dX5_record_0 rfl ?_
  refine hV.getf (v := .int (φ 1)) dX5_record_1 fl_X5_43 M_o rfl ?_
  refine zTop (v := nI k) hk ?_
  refine hV.bipush (v := 6) dX5_record_4 (by decide) ?_
  refine hV.icmp_ne_t (tgt := 50) dX5_record_6 (by decide) (zI_ne (b := 6) (by omega) (by omega) (by omega)) ?_
  refine hV.iconst (v := 0) dX5_record_50 (by decide) ?_
  refine hV.istore_n (ls2 := [(1, .int 0), (0, .ref b)]) dX5_record_51 (by decide) rfl ?_
  refine zHeap (h2 := setM h b φ (sa μ 2 (cpO (μ 2) (μ 0) (175 * k) 0))) (by rw [cpO_0]; rw [sa_self]) ?_
  have loop : ∀ (r i : Nat) , i + r = 175 → V 52 [(1, .int (nI i)), (0, .ref b)] [] (setM h b φ (sa μ 2 (cpO (μ 2) (μ 0) (175 * k) i))) n 0 0 := by
    intro r
    induction r with
    | zero =>
      intro i  hi 
      refine hV.iload_n 0 dX5_record_52 rfl ?_
      refine hV.sipush (v := 175) dX5_record_53 (by decide) ?_
      refine hV.icmp_ge_t (tgt := 86) dX5_record_56 (by decide) ((nI_leI (a := 175) (b := i) (by omega) (by omega)).mpr (by omega)) ?_
      refine hV.aload_n 1 dX5_record_86 rfl ?_
      refine hV.dup dX5_record_87 rfl ?_
      refine hV.getf (v := .int (φ 1)) dX5_record_88 fl_X5_43 M_o rfl ?_
      refine zTop (v := nI k) hk ?_
      refine hV.iconst (v := 1) dX5_record_91 (by decide) ?_
      refine hV.iaddN (a := k) (b := 1) dX5_record_92 ?_
      refine hV.putf dX5_record_93 fp_X5_43 M_o (Nat.le_of_ble_eq_true rfl) rfl rfl M_f1 ?_
      exact hE.2.2.2 dX5_record_96 rfl (by decide) (by decide) (zRv (by have e : i = 175 := (by omega); subst e; unfold recF recK; rw [if_neg (by omega), if_neg (by omega)]) rfl)
    | succ r ih =>
      intro i  hi 
      refine hV.iload_n 0 dX5_record_52 rfl ?_
      refine hV.sipush (v := 175) dX5_record_53 (by decide) ?_
      refine hV.icmp_ge_f (tgt := 86) dX5_record_56 (by decide) (fun q => absurd ((nI_leI (a := 175) (b := i) (by omega) (by omega)).mp q) (by omega)) ?_
      refine hV.aload_n 1 dX5_record_59 rfl ?_
      refine hV.getf (v := .ref (b + 3)) dX5_record_60 fl_X5_16 M_o rfl ?_
      refine hV.sipush (v := 175) dX5_record_63 (by decide) ?_
      refine hV.aload_n 1 dX5_record_66 rfl ?_
      refine hV.getf (v := .int (φ 1)) dX5_record_67 fl_X5_43 M_o rfl ?_
      refine zTop (v := nI k) hk ?_
      refine hV.imulN (a := 175) (b := k) dX5_record_70 ?_
      refine hV.iload_n 0 dX5_record_71 rfl ?_
      refine hV.iaddN (a := 175 * k) (b := i) dX5_record_72 ?_
      refine hV.aload_n 1 dX5_record_73 rfl ?_
      refine hV.getf (v := .ref (b + 1)) dX5_record_74 fl_X5_7 M_o rfl ?_
      refine hV.iload_n 0 dX5_record_77 rfl ?_
      refine hV.iald (j := i) dX5_record_78 M_a0 (zix_nI (by omega)) (by omega) ?_
      refine zTop (v := μ 0 i) rfl ?_
      refine hV.iast (j := (175 * k) + i) dX5_record_79 M_a2 (zix_nI (by omega)) (by omega) M_p2 ?_
      refine hV.iinc 0 (v := nI (i + 1)) (ls2 := [(1, .int (nI (i + 1))), (0, .ref b)]) dX5_record_80 rfl (nI_1 _) (by decide) rfl ?_
      refine hV.goto (tgt := 52) dX5_record_83 (by decide) ?_
      refine zHeap (h2 := setM h b φ (sa μ 2 (va_up (cpO (μ 2) (μ 0) (175 * k) i) ((175 * k) + i) (μ 0 i)))) (by simp only [up2_sa, sa_z, sa_at]; try rfl) ?_
      refine zHeap (h2 := setM h b φ (sa μ 2 (cpO (μ 2) (μ 0) (175 * k) (i + 1)))) (by rw [cpO_s]) ?_
      exact ih (i + 1) (by omega)
  exact loop (175) 0 (by omega)

set_option maxRecDepth 100000 in
set_option maxHeartbeats 4000000 in
theorem c_X5_record_b {l : Launch} {D : va_G} {base : Nat} (G : l.stackTraces = false) {h : zH} {n : Nat} {b : Nat} {μ : zB} {φ : Nat → Int32} (hk : φ 1 = 6) :
    zCt l D base 1 yX5_record w_X5_record [.ref b] (setM h b φ μ) n 0 0 (zR none (setM h b (va_up φ 1 (nI (recK 6))) (sa μ 2 (recF (μ 2) (μ 0) 6))) n) := by
  refine zCt.of G (by decide) (Nat.le_of_ble_eq_true rfl) (fun Sx V X hV hE hX => ?_)
  show V 0 [(0, .ref b)] [] (setM h b φ μ) n 0 0
  refine hV.aload_n 0 dX5_record_0 rfl ?_
  refine hV.getf (v := .int (φ 1)) dX5_record_1 fl_X5_43 M_o rfl ?_
  refine zTop (v := 6) hk ?_
  refine hV.bipush (v := 6) dX5_record_4 (by decide) ?_
  refine hV.icmp_ne_f (tgt := 50) dX5_record_6 (by decide) rfl ?_
  refine hV.iconst (v := 0) dX5_record_9 (by decide) ?_
  refine hV.istore_n (ls2 := [(1, .int 0), (0, .ref b)]) dX5_record_10 (by decide) rfl ?_
  refine zHeap (h2 := setM h b φ (sa μ 2 (cpF (μ 2) (μ 2) 175 0))) (by rw [cpF_0, sa_self]) ?_
  have loop : ∀ (r i : Nat) , i + r = 875 → V 11 [(1, .int (nI i)), (0, .ref b)] [] (setM h b φ (sa μ 2 (cpF (μ 2) (μ 2) 175 i))) n 0 0 := by
    intro r
    induction r with
    | zero =>
      intro i  hi 
      refine hV.iload_n 0 dX5_record_11 rfl ?_
      refine hV.sipush (v := 875) dX5_record_12 (by decide) ?_
      refine hV.icmp_ge_t (tgt := 40) dX5_record_15 (by decide) ((nI_leI (a := 875) (b := i) (by omega) (by omega)).mpr (by omega)) ?_
      have e9 : i = 875 := (by omega)
      subst e9
      refine hV.aload_n 1 dX5_record_40 rfl ?_
      refine hV.dup dX5_record_41 rfl ?_
      refine hV.getf (v := .int (φ 1)) dX5_record_42 fl_X5_43 M_o rfl ?_
      refine zTop (v := 6) hk ?_
      refine hV.iconst (v := 1) dX5_record_45 (by decide) ?_
      refine hV.isub dX5_record_46 ?_
      refine zTop (v := 5) (by decide) ?_
      refine hV.putf dX5_record_47 fp_X5_43 M_o (Nat.le_of_ble_eq_true rfl) rfl rfl M_f1 ?_
      refine hV.iconst (v := 0) dX5_record_50 (by decide) ?_
      refine hV.istore_n (ls2 := [(1, .int 0), (0, .ref b)]) dX5_record_51 (by decide) rfl ?_
      refine zHeap (h2 := setM h b (va_up φ 1 5) (sa μ 2 (cpO (cpF (μ 2) (μ 2) 175 875) (μ 0) (175 * 5) 0))) (by rw [cpO_0]) ?_
      have loop : ∀ (r i : Nat) , i + r = 175 → V 52 [(1, .int (nI i)), (0, .ref b)] [] (setM h b (va_up φ 1 5) (sa μ 2 (cpO (cpF (μ 2) (μ 2) 175 875) (μ 0) (175 * 5) i))) n 0 0 := by
        intro r
        induction r with
        | zero =>
          intro i  hi 
          refine hV.iload_n 0 dX5_record_52 rfl ?_
          refine hV.sipush (v := 175) dX5_record_53 (by decide) ?_
          refine hV.icmp_ge_t (tgt := 86) dX5_record_56 (by decide) ((nI_leI (a := 175) (b := i) (by omega) (by omega)).mpr (by omega)) ?_
          refine hV.aload_n 1 dX5_record_86 rfl ?_
          refine hV.dup dX5_record_87 rfl ?_
          refine hV.getf (v := .int 5) dX5_record_88 fl_X5_43 M_o rfl ?_
          refine hV.iconst (v := 1) dX5_record_91 (by decide) ?_
          refine hV.iadd dX5_record_92 ?_
          refine zTop (v := 6) (by decide) ?_
          refine hV.putf dX5_record_93 fp_X5_43 M_o (Nat.le_of_ble_eq_true rfl) rfl rfl M_f1 ?_
          exact hE.2.2.2 dX5_record_96 rfl (by decide) (by decide) (zRv (by have e : i = 175 := (by omega); subst e; unfold recF recK; rw [if_pos rfl, if_pos rfl, va_up2]; rfl) rfl)
        | succ r ih =>
          intro i  hi 
          refine hV.iload_n 0 dX5_record_52 rfl ?_
          refine hV.sipush (v := 175) dX5_record_53 (by decide) ?_
          refine hV.icmp_ge_f (tgt := 86) dX5_record_56 (by decide) (fun q => absurd ((nI_leI (a := 175) (b := i) (by omega) (by omega)).mp q) (by omega)) ?_
          refine hV.aload_n 1 dX5_record_59 rfl ?_
          refine hV.getf (v := .ref (b + 3)) dX5_record_60 fl_X5_16 M_o rfl ?_
          refine hV.sipush (v := 175) dX5_record_63 (by decide) ?_
          refine hV.aload_n 1 dX5_record_66 rfl ?_
          refine hV.getf (v := .int 5) dX5_record_67 fl_X5_43 M_o rfl ?_
          refine hV.imul dX5_record_70 ?_
          refine zTop (v := 875) (by decide) ?_
          refine hV.iload_n 0 dX5_record_71 rfl ?_
          refine hV.iaddN (a := 875) (b := i) dX5_record_72 ?_
          refine hV.aload_n 1 dX5_record_73 rfl ?_
          refine hV.getf (v := .ref (b + 1)) dX5_record_74 fl_X5_7 M_o rfl ?_
          refine hV.iload_n 0 dX5_record_77 rfl ?_
          refine hV.iald (j := i) dX5_record_78 M_a0 (zix_nI (by omega)) (by omega) ?_
          refine zTop (v := μ 0 i) rfl ?_
          refine hV.iast (j := 875 + i) dX5_record_79 M_a2 (zix_nI (by omega)) (by omega) M_p2 ?_
          refine hV.iinc 0 (v := nI (i + 1)) (ls2 := [(1, .int (nI (i + 1))), (0, .ref b)]) dX5_record_80 rfl (nI_1 _) (by decide) rfl ?_
          refine hV.goto (tgt := 52) dX5_record_83 (by decide) ?_
          refine zHeap (h2 := setM h b (va_up φ 1 5) (sa μ 2 (va_up (cpO (cpF (μ 2) (μ 2) 175 875) (μ 0) (175 * 5) i) (875 + i) (μ 0 i)))) (by simp only [up2_sa, sa_z, sa_at]; try rfl) ?_
          refine zHeap (h2 := setM h b (va_up φ 1 5) (sa μ 2 (cpO (cpF (μ 2) (μ 2) 175 875) (μ 0) (175 * 5) (i + 1)))) (by rw [cpO_s]) ?_
          exact ih (i + 1) (by omega)
      exact loop (175) 0 (by omega)
    | succ r ih =>
      intro i  hi 
      refine hV.iload_n 0 dX5_record_11 rfl ?_
      refine hV.sipush (v := 875) dX5_record_12 (by decide) ?_
      refine hV.icmp_ge_f (tgt := 40) dX5_record_15 (by decide) (fun q => absurd ((nI_leI (a := 875) (b := i) (by omega) (by omega)).mp q) (by omega)) ?_
      refine hV.aload_n 1 dX5_record_18 rfl ?_
      refine hV.getf (v := .ref (b + 3)) dX5_record_19 fl_X5_16 M_o rfl ?_
      refine hV.iload_n 0 dX5_record_22 rfl ?_
      refine hV.aload_n 1 dX5_record_23 rfl ?_
      refine hV.getf (v := .ref (b + 3)) dX5_record_24 fl_X5_16 M_o rfl ?_
      refine hV.sipush (v := 175) dX5_record_27 (by decide) ?_
      refine hV.iload_n 0 dX5_record_30 rfl ?_
      refine hV.iaddN (a := 175) (b := i) dX5_record_31 ?_
      refine hV.iald (j := 175 + i) dX5_record_32 M_a2 (zix_nI (by omega)) (by omega) ?_
      refine zTop (v := (cpF (μ 2) (μ 2) 175 i) (175 + i)) (congrFun (sa_at _ _ _) _) ?_
      refine zTop (v := μ 2 (175 + i)) (cpF_ge _ _ _ _ _ (by omega)) ?_
      refine hV.iast (j := i) dX5_record_33 M_a2 (zix_nI (by omega)) (by omega) M_p2 ?_
      refine hV.iinc 0 (v := nI (i + 1)) (ls2 := [(1, .int (nI (i + 1))), (0, .ref b)]) dX5_record_34 rfl (nI_1 _) (by decide) rfl ?_
      refine hV.goto (tgt := 11) dX5_record_37 (by decide) ?_
      refine zHeap (h2 := setM h b φ (sa μ 2 (va_up (cpF (μ 2) (μ 2) 175 i) i (μ 2 (175 + i))))) (by simp only [up2_sa, sa_z, sa_at]; try rfl) ?_
      refine zHeap (h2 := setM h b φ (sa μ 2 (cpF (μ 2) (μ 2) 175 (i + 1)))) (by rw [cpF_s]) ?_
      exact ih (i + 1) (by omega)
  exact loop (875) 0 (by omega)

theorem c_X5_record {l : Launch} {D : va_G} {base : Nat} (G : l.stackTraces = false) {h : zH} {n : Nat} {b : Nat} {μ : zB} {φ : Nat → Int32} {k : Nat} (hk : φ 1 = nI k) (hk6 : k ≤ 6) :
    zCt l D base 1 yX5_record w_X5_record [.ref b] (setM h b φ μ) n 0 0 (zR none (setM h b (va_up φ 1 (nI (recK k))) (sa μ 2 (recF (μ 2) (μ 0) k))) n) := by
  by_cases h6 : k = 6
  · subst h6; exact c_X5_record_b G hk
  · exact c_X5_record_a G hk (by omega)
