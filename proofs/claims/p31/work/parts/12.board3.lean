set_option maxRecDepth 100000 in
set_option maxHeartbeats 4000000 in
theorem c_X0_launchBall {l : Launch} {D : va_G} {base : Nat} (G : l.stackTraces = false) {h : zH} {n : Nat} {b : Nat} {β : zB} {c : Nat} (hc : c < 7) (hp : pinOk (β 1)) :
    zCt l D base 4 yX0_launchBall w_X0_launchBall [.ref b, .int (nI c)] (setB h b β) n 0 0 (zR (some (.int (lchR β c))) (setB h b (lchB β c)) n) := by
  refine zCt.of G (by decide) (Nat.le_of_ble_eq_true rfl) (fun Sx V X hV hE hX => ?_)
  show V 0 [(0, .ref b), (1, .int (nI c))] [] (setB h b β) n 0 0
  refine hV.aload_n 0 dX0_launchBall_0 rfl ?_
  refine hV.getf dX0_launchBall_1 fl_X0_9 B_o rfl ?_
  refine hV.iconst (v := 0) dX0_launchBall_4 (by decide) ?_
  refine hV.dup2 dX0_launchBall_5 rfl rfl ?_
  refine hV.iald (j := 0) dX0_launchBall_6 B_a0 ⟨by decide, by decide⟩ (by decide) ?_
  refine hV.iconst (v := 1) dX0_launchBall_7 (by decide) ?_
  refine hV.isub dX0_launchBall_8 ?_
  refine hV.iast (j := 0) dX0_launchBall_9 B_a0 ⟨by decide, by decide⟩ (by decide) B_p0 ?_
  refine hV.aload_n 0 dX0_launchBall_10 rfl ?_
  refine hV.getf dX0_launchBall_11 fl_X0_9 B_o rfl ?_
  refine hV.iconst (v := 2) dX0_launchBall_14 (by decide) ?_
  refine hV.dup2 dX0_launchBall_15 rfl rfl ?_
  refine hV.iald (j := 2) dX0_launchBall_16 B_a0 ⟨by decide, by decide⟩ (by decide) ?_
  refine zTop (v := β 0 2) rfl ?_
  refine hV.iconst (v := 1) dX0_launchBall_17 (by decide) ?_
  refine hV.iadd dX0_launchBall_18 ?_
  refine hV.iast (j := 2) dX0_launchBall_19 B_a0 ⟨by decide, by decide⟩ (by decide) B_p0 ?_
  refine zHeap (h2 := setB h b (lch1 β)) rfl ?_
  refine hV.aload_n 0 dX0_launchBall_20 rfl ?_
  refine hV.getf dX0_launchBall_21 fl_X0_9 B_o rfl ?_
  refine hV.bipush (v := 6) dX0_launchBall_24 (by decide) ?_
  refine hV.iald (j := 6) dX0_launchBall_26 B_a0 ⟨by decide, by decide⟩ (by decide) ?_
  by_cases c27_1 : ((lch1 β) 0 6) ≤ 0
  · refine hV.if_le_t (tgt := 52) dX0_launchBall_27 (by decide) c27_1 ?_
    refine zHeap (h2 := setB h b (lch2 (lch1 β))) (by simp [lch2, c27_1]) ?_
    refine hV.aload_n 0 dX0_launchBall_52 rfl ?_
    refine hV.iload_n 1 dX0_launchBall_53 rfl ?_
    refine hV.callV1 (rest := []) dX0_launchBall_54 (c_X0_fallFrom G (c := c) (by omega) (by rw [lch2_pin]; exact hp)) my_X0_fallFrom kv_X0_82 B_o rfl rfl rfl (Nat.le_of_ble_eq_true rfl) (Nat.le_of_ble_eq_true rfl) (Nat.le_of_ble_eq_true rfl) (Nat.le_of_ble_eq_true rfl) (Nat.le_of_ble_eq_true rfl) (st2 := [.int (nI ((fallN (lch2 (lch1 β)) c 8).2))]) (k2 := 0) (g2 := 0) rfl rfl rfl ?_
    refine zHeap (h2 := setB h b (lchA β c).1) (by rw [lchA_eq]) ?_
    refine zTop (v := nI (lchA β c).2) (by rw [lchA_eq]) ?_
    have hlt := lchA_lt β hc
    refine hV.istore_n (ls2 := [(2, .int (nI ((lchA β c).2))), (0, .ref b), (1, .int (nI c))]) dX0_launchBall_57 (by decide) rfl ?_
    refine hV.aload_n 1 dX0_launchBall_58 rfl ?_
    refine hV.getf dX0_launchBall_59 fl_X0_9 B_o rfl ?_
    refine hV.bipush (v := 11) dX0_launchBall_62 (by decide) ?_
    refine hV.iload_n 0 dX0_launchBall_64 rfl ?_
    refine hV.iast (j := 11) dX0_launchBall_65 B_a0 ⟨by decide, by decide⟩ (by decide) B_p0 ?_
    refine zHeap (h2 := setB h b (lch4 (lchA β c).1 (lchA β c).2)) rfl ?_
    refine hV.aload_n 1 dX0_launchBall_66 rfl ?_
    refine hV.iload_n 0 dX0_launchBall_67 rfl ?_
    refine hV.callV1 (rest := []) dX0_launchBall_68 (c_X0_comeTo G (p := (lchA β c).2) (by omega)) my_X0_comeTo kv_X0_85 B_o rfl rfl rfl (Nat.le_of_ble_eq_true rfl) (Nat.le_of_ble_eq_true rfl) (Nat.le_of_ble_eq_true rfl) (Nat.le_of_ble_eq_true rfl) (Nat.le_of_ble_eq_true rfl) (st2 := [.int (comeR (lch4 (lchA β c).1 (lchA β c).2) ((lchA β c).2))]) (k2 := 0) (g2 := 0) rfl rfl rfl ?_
    refine hV.istore_n (ls2 := [(3, .int (comeR (lch4 (lchA β c).1 (lchA β c).2) ((lchA β c).2))), (2, .int (nI ((lchA β c).2))), (0, .ref b), (1, .int (nI c))]) dX0_launchBall_71 (by decide) rfl ?_
    refine hV.iload_n 1 dX0_launchBall_72 rfl ?_
    refine hV.aload_n 2 dX0_launchBall_73 rfl ?_
    refine hV.getf dX0_launchBall_74 fl_X0_9 B_o rfl ?_
    refine hV.bipush (v := 12) dX0_launchBall_77 (by decide) ?_
    refine hV.iald (j := 12) dX0_launchBall_79 B_a0 ⟨by decide, by decide⟩ (by decide) ?_
    by_cases c80_2 : (nI ((lchA β c).2)) = ((comeB (lch4 (lchA β c).1 (lchA β c).2) ((lchA β c).2)) 0 12)
    · refine hV.icmp_ne_f (tgt := 105) dX0_launchBall_80 (by decide) c80_2 ?_
      refine hV.aload_n 2 dX0_launchBall_83 rfl ?_
      refine hV.getf dX0_launchBall_84 fl_X0_9 B_o rfl ?_
      refine hV.bipush (v := 6) dX0_launchBall_87 (by decide) ?_
      refine hV.iald (j := 6) dX0_launchBall_89 B_a0 ⟨by decide, by decide⟩ (by decide) ?_
      refine hV.iconst (v := 4) dX0_launchBall_90 (by decide) ?_
      by_cases c91_3 : 4 ≤ ((comeB (lch4 (lchA β c).1 (lchA β c).2) ((lchA β c).2)) 0 6)
      · refine hV.icmp_ge_t (tgt := 105) dX0_launchBall_91 (by decide) c91_3 ?_
        refine hV.iload_n 0 dX0_launchBall_105 rfl ?_
        exact hE.1 dX0_launchBall_106 rfl rfl (by decide) (by decide) (zRi rfl (by simp [lchB, lch5, c80_2, c91_3]) rfl)
      · refine hV.icmp_ge_f (tgt := 105) dX0_launchBall_91 (by decide) c91_3 ?_
        refine hV.aload_n 2 dX0_launchBall_94 rfl ?_
        refine hV.getf dX0_launchBall_95 fl_X0_9 B_o rfl ?_
        refine hV.bipush (v := 6) dX0_launchBall_98 (by decide) ?_
        refine hV.dup2 dX0_launchBall_100 rfl rfl ?_
        refine hV.iald (j := 6) dX0_launchBall_101 B_a0 ⟨by decide, by decide⟩ (by decide) ?_
        refine hV.iconst (v := 1) dX0_launchBall_102 (by decide) ?_
        refine hV.iadd dX0_launchBall_103 ?_
        refine hV.iast (j := 6) dX0_launchBall_104 B_a0 ⟨by decide, by decide⟩ (by decide) B_p0 ?_
        refine hV.iload_n 0 dX0_launchBall_105 rfl ?_
        exact hE.1 dX0_launchBall_106 rfl rfl (by decide) (by decide) (zRi rfl (by simp [lchB, lch5, c80_2, c91_3]) rfl)
    · refine hV.icmp_ne_t (tgt := 105) dX0_launchBall_80 (by decide) c80_2 ?_
      refine hV.iload_n 0 dX0_launchBall_105 rfl ?_
      exact hE.1 dX0_launchBall_106 rfl rfl (by decide) (by decide) (zRi rfl (by simp [lchB, lch5, c80_2]) rfl)
  · refine hV.if_le_f (tgt := 52) dX0_launchBall_27 (by decide) c27_1 ?_
    refine hV.aload_n 0 dX0_launchBall_30 rfl ?_
    refine hV.callV1 (rest := []) dX0_launchBall_31 (c_X0_isHeldOpen G) my_X0_isHeldOpen kv_X0_71 B_o rfl rfl rfl (Nat.le_of_ble_eq_true rfl) (Nat.le_of_ble_eq_true rfl) (Nat.le_of_ble_eq_true rfl) (Nat.le_of_ble_eq_true rfl) (Nat.le_of_ble_eq_true rfl) (st2 := [.int (b2 (0 < (lch1 β) 0 9))]) (k2 := 0) (g2 := 0) rfl rfl rfl ?_
    by_cases c34_4 : (b2 (0 < (lch1 β) 0 9)) = 0
    · refine hV.if_ne_f (tgt := 52) dX0_launchBall_34 (by decide) c34_4 ?_
      refine hV.aload_n 0 dX0_launchBall_37 rfl ?_
      refine hV.getf dX0_launchBall_38 fl_X0_9 B_o rfl ?_
      refine hV.bipush (v := 6) dX0_launchBall_41 (by decide) ?_
      refine hV.dup2 dX0_launchBall_43 rfl rfl ?_
      refine hV.iald (j := 6) dX0_launchBall_44 B_a0 ⟨by decide, by decide⟩ (by decide) ?_
      refine hV.iconst (v := 1) dX0_launchBall_45 (by decide) ?_
      refine hV.isub dX0_launchBall_46 ?_
      refine hV.iast (j := 6) dX0_launchBall_47 B_a0 ⟨by decide, by decide⟩ (by decide) B_p0 ?_
      refine hV.aload_n 0 dX0_launchBall_48 rfl ?_
      refine hV.callV1 (rest := []) dX0_launchBall_49 (c_X0_spinReels G) my_X0_spinReels kv_X0_79 B_o rfl rfl rfl (Nat.le_of_ble_eq_true rfl) (Nat.le_of_ble_eq_true rfl) (Nat.le_of_ble_eq_true rfl) (Nat.le_of_ble_eq_true rfl) (Nat.le_of_ble_eq_true rfl) (st2 := []) (k2 := 0) (g2 := 0) rfl rfl rfl ?_
      refine zHeap (h2 := setB h b (lch2 (lch1 β))) (by simp [lch2, c27_1, c34_4]) ?_
      refine hV.aload_n 0 dX0_launchBall_52 rfl ?_
      refine hV.iload_n 1 dX0_launchBall_53 rfl ?_
      refine hV.callV1 (rest := []) dX0_launchBall_54 (c_X0_fallFrom G (c := c) (by omega) (by rw [lch2_pin]; exact hp)) my_X0_fallFrom kv_X0_82 B_o rfl rfl rfl (Nat.le_of_ble_eq_true rfl) (Nat.le_of_ble_eq_true rfl) (Nat.le_of_ble_eq_true rfl) (Nat.le_of_ble_eq_true rfl) (Nat.le_of_ble_eq_true rfl) (st2 := [.int (nI ((fallN (lch2 (lch1 β)) c 8).2))]) (k2 := 0) (g2 := 0) rfl rfl rfl ?_
      refine zHeap (h2 := setB h b (lchA β c).1) (by rw [lchA_eq]) ?_
      refine zTop (v := nI (lchA β c).2) (by rw [lchA_eq]) ?_
      have hlt := lchA_lt β hc
      refine hV.istore_n (ls2 := [(2, .int (nI ((lchA β c).2))), (0, .ref b), (1, .int (nI c))]) dX0_launchBall_57 (by decide) rfl ?_
      refine hV.aload_n 1 dX0_launchBall_58 rfl ?_
      refine hV.getf dX0_launchBall_59 fl_X0_9 B_o rfl ?_
      refine hV.bipush (v := 11) dX0_launchBall_62 (by decide) ?_
      refine hV.iload_n 0 dX0_launchBall_64 rfl ?_
      refine hV.iast (j := 11) dX0_launchBall_65 B_a0 ⟨by decide, by decide⟩ (by decide) B_p0 ?_
      refine zHeap (h2 := setB h b (lch4 (lchA β c).1 (lchA β c).2)) rfl ?_
      refine hV.aload_n 1 dX0_launchBall_66 rfl ?_
      refine hV.iload_n 0 dX0_launchBall_67 rfl ?_
      refine hV.callV1 (rest := []) dX0_launchBall_68 (c_X0_comeTo G (p := (lchA β c).2) (by omega)) my_X0_comeTo kv_X0_85 B_o rfl rfl rfl (Nat.le_of_ble_eq_true rfl) (Nat.le_of_ble_eq_true rfl) (Nat.le_of_ble_eq_true rfl) (Nat.le_of_ble_eq_true rfl) (Nat.le_of_ble_eq_true rfl) (st2 := [.int (comeR (lch4 (lchA β c).1 (lchA β c).2) ((lchA β c).2))]) (k2 := 0) (g2 := 0) rfl rfl rfl ?_
      refine hV.istore_n (ls2 := [(3, .int (comeR (lch4 (lchA β c).1 (lchA β c).2) ((lchA β c).2))), (2, .int (nI ((lchA β c).2))), (0, .ref b), (1, .int (nI c))]) dX0_launchBall_71 (by decide) rfl ?_
      refine hV.iload_n 1 dX0_launchBall_72 rfl ?_
      refine hV.aload_n 2 dX0_launchBall_73 rfl ?_
      refine hV.getf dX0_launchBall_74 fl_X0_9 B_o rfl ?_
      refine hV.bipush (v := 12) dX0_launchBall_77 (by decide) ?_
      refine hV.iald (j := 12) dX0_launchBall_79 B_a0 ⟨by decide, by decide⟩ (by decide) ?_
      by_cases c80_5 : (nI ((lchA β c).2)) = ((comeB (lch4 (lchA β c).1 (lchA β c).2) ((lchA β c).2)) 0 12)
      · refine hV.icmp_ne_f (tgt := 105) dX0_launchBall_80 (by decide) c80_5 ?_
        refine hV.aload_n 2 dX0_launchBall_83 rfl ?_
        refine hV.getf dX0_launchBall_84 fl_X0_9 B_o rfl ?_
        refine hV.bipush (v := 6) dX0_launchBall_87 (by decide) ?_
        refine hV.iald (j := 6) dX0_launchBall_89 B_a0 ⟨by decide, by decide⟩ (by decide) ?_
        refine hV.iconst (v := 4) dX0_launchBall_90 (by decide) ?_
        by_cases c91_6 : 4 ≤ ((comeB (lch4 (lchA β c).1 (lchA β c).2) ((lchA β c).2)) 0 6)
        · refine hV.icmp_ge_t (tgt := 105) dX0_launchBall_91 (by decide) c91_6 ?_
          refine hV.iload_n 0 dX0_launchBall_105 rfl ?_
          exact hE.1 dX0_launchBall_106 rfl rfl (by decide) (by decide) (zRi rfl (by simp [lchB, lch5, c80_5, c91_6]) rfl)
        · refine hV.icmp_ge_f (tgt := 105) dX0_launchBall_91 (by decide) c91_6 ?_
          refine hV.aload_n 2 dX0_launchBall_94 rfl ?_
          refine hV.getf dX0_launchBall_95 fl_X0_9 B_o rfl ?_
          refine hV.bipush (v := 6) dX0_launchBall_98 (by decide) ?_
          refine hV.dup2 dX0_launchBall_100 rfl rfl ?_
          refine hV.iald (j := 6) dX0_launchBall_101 B_a0 ⟨by decide, by decide⟩ (by decide) ?_
          refine hV.iconst (v := 1) dX0_launchBall_102 (by decide) ?_
          refine hV.iadd dX0_launchBall_103 ?_
          refine hV.iast (j := 6) dX0_launchBall_104 B_a0 ⟨by decide, by decide⟩ (by decide) B_p0 ?_
          refine hV.iload_n 0 dX0_launchBall_105 rfl ?_
          exact hE.1 dX0_launchBall_106 rfl rfl (by decide) (by decide) (zRi rfl (by simp [lchB, lch5, c80_5, c91_6]) rfl)
      · refine hV.icmp_ne_t (tgt := 105) dX0_launchBall_80 (by decide) c80_5 ?_
        refine hV.iload_n 0 dX0_launchBall_105 rfl ?_
        exact hE.1 dX0_launchBall_106 rfl rfl (by decide) (by decide) (zRi rfl (by simp [lchB, lch5, c80_5]) rfl)
    · refine hV.if_ne_t (tgt := 52) dX0_launchBall_34 (by decide) c34_4 ?_
      refine zHeap (h2 := setB h b (lch2 (lch1 β))) (by simp [lch2, c27_1, c34_4]) ?_
      refine hV.aload_n 0 dX0_launchBall_52 rfl ?_
      refine hV.iload_n 1 dX0_launchBall_53 rfl ?_
      refine hV.callV1 (rest := []) dX0_launchBall_54 (c_X0_fallFrom G (c := c) (by omega) (by rw [lch2_pin]; exact hp)) my_X0_fallFrom kv_X0_82 B_o rfl rfl rfl (Nat.le_of_ble_eq_true rfl) (Nat.le_of_ble_eq_true rfl) (Nat.le_of_ble_eq_true rfl) (Nat.le_of_ble_eq_true rfl) (Nat.le_of_ble_eq_true rfl) (st2 := [.int (nI ((fallN (lch2 (lch1 β)) c 8).2))]) (k2 := 0) (g2 := 0) rfl rfl rfl ?_
      refine zHeap (h2 := setB h b (lchA β c).1) (by rw [lchA_eq]) ?_
      refine zTop (v := nI (lchA β c).2) (by rw [lchA_eq]) ?_
      have hlt := lchA_lt β hc
      refine hV.istore_n (ls2 := [(2, .int (nI ((lchA β c).2))), (0, .ref b), (1, .int (nI c))]) dX0_launchBall_57 (by decide) rfl ?_
      refine hV.aload_n 1 dX0_launchBall_58 rfl ?_
      refine hV.getf dX0_launchBall_59 fl_X0_9 B_o rfl ?_
      refine hV.bipush (v := 11) dX0_launchBall_62 (by decide) ?_
      refine hV.iload_n 0 dX0_launchBall_64 rfl ?_
      refine hV.iast (j := 11) dX0_launchBall_65 B_a0 ⟨by decide, by decide⟩ (by decide) B_p0 ?_
      refine zHeap (h2 := setB h b (lch4 (lchA β c).1 (lchA β c).2)) rfl ?_
      refine hV.aload_n 1 dX0_launchBall_66 rfl ?_
      refine hV.iload_n 0 dX0_launchBall_67 rfl ?_
      refine hV.callV1 (rest := []) dX0_launchBall_68 (c_X0_comeTo G (p := (lchA β c).2) (by omega)) my_X0_comeTo kv_X0_85 B_o rfl rfl rfl (Nat.le_of_ble_eq_true rfl) (Nat.le_of_ble_eq_true rfl) (Nat.le_of_ble_eq_true rfl) (Nat.le_of_ble_eq_true rfl) (Nat.le_of_ble_eq_true rfl) (st2 := [.int (comeR (lch4 (lchA β c).1 (lchA β c).2) ((lchA β c).2))]) (k2 := 0) (g2 := 0) rfl rfl rfl ?_
      refine hV.istore_n (ls2 := [(3, .int (comeR (lch4 (lchA β c).1 (lchA β c).2) ((lchA β c).2))), (2, .int (nI ((lchA β c).2))), (0, .ref b), (1, .int (nI c))]) dX0_launchBall_71 (by decide) rfl ?_
      refine hV.iload_n 1 dX0_launchBall_72 rfl ?_
      refine hV.aload_n 2 dX0_launchBall_73 rfl ?_
      refine hV.getf dX0_launchBall_74 fl_X0_9 B_o rfl ?_
      refine hV.bipush (v := 12) dX0_launchBall_77 (by decide) ?_
      refine hV.iald (j := 12) dX0_launchBall_79 B_a0 ⟨by decide, by decide⟩ (by decide) ?_
      by_cases c80_7 : (nI ((lchA β c).2)) = ((comeB (lch4 (lchA β c).1 (lchA β c).2) ((lchA β c).2)) 0 12)
      · refine hV.icmp_ne_f (tgt := 105) dX0_launchBall_80 (by decide) c80_7 ?_
        refine hV.aload_n 2 dX0_launchBall_83 rfl ?_
        refine hV.getf dX0_launchBall_84 fl_X0_9 B_o rfl ?_
        refine hV.bipush (v := 6) dX0_launchBall_87 (by decide) ?_
        refine hV.iald (j := 6) dX0_launchBall_89 B_a0 ⟨by decide, by decide⟩ (by decide) ?_
        refine hV.iconst (v := 4) dX0_launchBall_90 (by decide) ?_
        by_cases c91_8 : 4 ≤ ((comeB (lch4 (lchA β c).1 (lchA β c).2) ((lchA β c).2)) 0 6)
        · refine hV.icmp_ge_t (tgt := 105) dX0_launchBall_91 (by decide) c91_8 ?_
          refine hV.iload_n 0 dX0_launchBall_105 rfl ?_
          exact hE.1 dX0_launchBall_106 rfl rfl (by decide) (by decide) (zRi rfl (by simp [lchB, lch5, c80_7, c91_8]) rfl)
        · refine hV.icmp_ge_f (tgt := 105) dX0_launchBall_91 (by decide) c91_8 ?_
          refine hV.aload_n 2 dX0_launchBall_94 rfl ?_
          refine hV.getf dX0_launchBall_95 fl_X0_9 B_o rfl ?_
          refine hV.bipush (v := 6) dX0_launchBall_98 (by decide) ?_
          refine hV.dup2 dX0_launchBall_100 rfl rfl ?_
          refine hV.iald (j := 6) dX0_launchBall_101 B_a0 ⟨by decide, by decide⟩ (by decide) ?_
          refine hV.iconst (v := 1) dX0_launchBall_102 (by decide) ?_
          refine hV.iadd dX0_launchBall_103 ?_
          refine hV.iast (j := 6) dX0_launchBall_104 B_a0 ⟨by decide, by decide⟩ (by decide) B_p0 ?_
          refine hV.iload_n 0 dX0_launchBall_105 rfl ?_
          exact hE.1 dX0_launchBall_106 rfl rfl (by decide) (by decide) (zRi rfl (by simp [lchB, lch5, c80_7, c91_8]) rfl)
      · refine hV.icmp_ne_t (tgt := 105) dX0_launchBall_80 (by decide) c80_7 ?_
        refine hV.iload_n 0 dX0_launchBall_105 rfl ?_
        exact hE.1 dX0_launchBall_106 rfl rfl (by decide) (by decide) (zRi rfl (by simp [lchB, lch5, c80_7]) rfl)

set_option maxRecDepth 100000 in
set_option maxHeartbeats 4000000 in
theorem c_X0_launchBalls {l : Launch} {D : va_G} {base : Nat} (G : l.stackTraces = false) {h : zH} {n : Nat} {b : Nat} {β : zB} {c k : Nat} (hc : c < 7) (hk : k < 1000) (hp : pinOk (β 1)) :
    zCt l D base 5 yX0_launchBalls w_X0_launchBalls [.ref b, .int (nI c), .int (nI k)] (setB h b β) n 0 0 (zR (some (.int ((plB c k (β, 0)).2))) (setB h b ((plB c k (β, 0)).1)) n) := by
  refine zCt.of G (by decide) (Nat.le_of_ble_eq_true rfl) (fun Sx V X hV hE hX => ?_)
  show V 0 [(0, .ref b), (1, .int (nI c)), (2, .int (nI k))] [] (setB h b β) n 0 0
  refine hV.iconst (v := 0) dX0_launchBalls_0 (by decide) ?_
  refine hV.istore_n (ls2 := [(3, .int 0), (0, .ref b), (1, .int (nI c)), (2, .int (nI k))]) dX0_launchBalls_1 (by decide) rfl ?_
  refine hV.iconst (v := 0) dX0_launchBalls_2 (by decide) ?_
  refine hV.istore (ls2 := [(4, .int 0), (3, .int 0), (0, .ref b), (1, .int (nI c)), (2, .int (nI k))]) dX0_launchBalls_3 (by decide) rfl ?_
  have loop : ∀ (r i : Nat) (γ : zB) (s : Int32), i + r = k → (plB c r (γ, s) = plB c k (β, 0)) → (γ 1 = β 1) → V 5 [(4, .int (nI i)), (3, .int s), (0, .ref b), (1, .int (nI c)), (2, .int (nI k))] [] (setB h b γ) n 0 0 := by
    intro r
    induction r with
    | zero =>
      intro i γ s hi he hpin
      refine hV.iload 0 dX0_launchBalls_5 rfl ?_
      refine hV.iload_n 4 dX0_launchBalls_7 rfl ?_
      refine hV.icmp_ge_t (tgt := 34) dX0_launchBalls_8 (by decide) ((nI_leI (a := k) (b := i) (by omega) (by omega)).mpr (by omega)) ?_
      refine hV.iload_n 1 dX0_launchBalls_34 rfl ?_
      exact hE.1 dX0_launchBalls_35 rfl rfl (by decide) (by decide) (zRi (by rw [← he]; simp [plB]) (by rw [← he]; simp [plB]) rfl)
    | succ r ih =>
      intro i γ s hi he hpin
      refine hV.iload 0 dX0_launchBalls_5 rfl ?_
      refine hV.iload_n 4 dX0_launchBalls_7 rfl ?_
      refine hV.icmp_ge_f (tgt := 34) dX0_launchBalls_8 (by decide) (fun q => absurd ((nI_leI (a := k) (b := i) (by omega) (by omega)).mp q) (by omega)) ?_
      refine hV.aload_n 2 dX0_launchBalls_11 rfl ?_
      refine hV.getf dX0_launchBalls_12 fl_X0_9 B_o rfl ?_
      refine hV.iconst (v := 0) dX0_launchBalls_15 (by decide) ?_
      refine hV.iald (j := 0) dX0_launchBalls_16 B_a0 ⟨by decide, by decide⟩ (by decide) ?_
      by_cases c17_1 : (γ 0 0) ≤ 0
      · refine hV.if_le_t (tgt := 34) dX0_launchBalls_17 (by decide) c17_1 ?_
        refine hV.iload_n 1 dX0_launchBalls_34 rfl ?_
        exact hE.1 dX0_launchBalls_35 rfl rfl (by decide) (by decide) (zRi (by rw [← he]; simp [plB, c17_1]) (by rw [← he]; simp [plB, c17_1]) rfl)
      · refine hV.if_le_f (tgt := 34) dX0_launchBalls_17 (by decide) c17_1 ?_
        refine hV.iload_n 1 dX0_launchBalls_20 rfl ?_
        refine hV.aload_n 2 dX0_launchBalls_21 rfl ?_
        refine hV.iload_n 3 dX0_launchBalls_22 rfl ?_
        refine hV.callV1 (rest := [.int s]) dX0_launchBalls_23 (c_X0_launchBall G (c := c) (by omega) (by rw [hpin]; exact hp)) my_X0_launchBall kv_X0_75 B_o rfl rfl rfl (Nat.le_of_ble_eq_true rfl) (Nat.le_of_ble_eq_true rfl) (Nat.le_of_ble_eq_true rfl) (Nat.le_of_ble_eq_true rfl) (Nat.le_of_ble_eq_true rfl) (st2 := [.int (lchR γ c), .int s]) (k2 := 0) (g2 := 0) rfl rfl rfl ?_
        refine hV.iadd dX0_launchBalls_26 ?_
        refine hV.istore_n (ls2 := [(3, .int (s + (lchR γ c))), (4, .int (nI i)), (0, .ref b), (1, .int (nI c)), (2, .int (nI k))]) dX0_launchBalls_27 (by decide) rfl ?_
        refine hV.iinc 1 (v := nI (i + 1)) (ls2 := [(4, .int (nI (i + 1))), (3, .int (s + (lchR γ c))), (0, .ref b), (1, .int (nI c)), (2, .int (nI k))]) dX0_launchBalls_28 rfl (nI_1 _) (by decide) rfl ?_
        refine hV.goto (tgt := 5) dX0_launchBalls_31 (by decide) ?_
        exact ih (i + 1) _ _ (by omega) (by rw [← he]; simp only [plB]; rw [if_neg c17_1]) (by rw [lchB_pin]; exact hpin)
  exact loop (k) 0 β 0 (by omega) rfl rfl

set_option maxRecDepth 100000 in
set_option maxHeartbeats 4000000 in
theorem c_X0_copyFrom {l : Launch} {D : va_G} {base : Nat} (G : l.stackTraces = false) {h : zH} {n : Nat} {a b : Nat} {α β : zB} (hd : a + 10 < b ∨ b + 10 < a) :
    zCt l D base 1 yX0_copyFrom w_X0_copyFrom [.ref a, .ref b] (setB (setB h b β) a α) n 0 0 (zR none (setB (setB h b β) a (cpB α β)) n) := by
  refine zCt.of G (by decide) (Nat.le_of_ble_eq_true rfl) (fun Sx V X hV hE hX => ?_)
  show V 0 [(0, .ref a), (1, .ref b)] [] (setB (setB h b β) a α) n 0 0
  refine hV.aload_n 1 dX0_copyFrom_0 rfl ?_
  refine hV.getf dX0_copyFrom_1 fl_X0_9 ((zobj_out (by omega)).trans B_o) rfl ?_
  refine hV.iconst (v := 0) dX0_copyFrom_4 (by decide) ?_
  refine hV.aload_n 0 dX0_copyFrom_5 rfl ?_
  refine hV.getf dX0_copyFrom_6 fl_X0_9 B_o rfl ?_
  refine hV.iconst (v := 0) dX0_copyFrom_9 (by decide) ?_
  refine hV.bipush (v := 17) dX0_copyFrom_10 (by decide) ?_
  refine hV.copyi dX0_copyFrom_12 ka_X0_51 ((zobj_out (by omega)).trans B_a0) B_a0 (j := 17) ⟨by decide, by decide⟩ (by decide) (by decide) (by decide) (by decide) (by decide) B_q0 ?_
  refine hV.aload_n 1 dX0_copyFrom_15 rfl ?_
  refine hV.getf dX0_copyFrom_16 fl_X0_15 ((zobj_out (by omega)).trans B_o) rfl ?_
  refine hV.iconst (v := 0) dX0_copyFrom_19 (by decide) ?_
  refine hV.aload_n 0 dX0_copyFrom_20 rfl ?_
  refine hV.getf dX0_copyFrom_21 fl_X0_15 B_o rfl ?_
  refine hV.iconst (v := 0) dX0_copyFrom_24 (by decide) ?_
  refine hV.bipush (v := 56) dX0_copyFrom_25 (by decide) ?_
  refine hV.copyi dX0_copyFrom_27 ka_X0_51 ((zobj_out (by omega)).trans B_a1) B_a1 (j := 56) ⟨by decide, by decide⟩ (by decide) (by decide) (by decide) (by decide) (by decide) B_q1 ?_
  refine hV.aload_n 1 dX0_copyFrom_30 rfl ?_
  refine hV.getf dX0_copyFrom_31 fl_X0_18 ((zobj_out (by omega)).trans B_o) rfl ?_
  refine hV.iconst (v := 0) dX0_copyFrom_34 (by decide) ?_
  refine hV.aload_n 0 dX0_copyFrom_35 rfl ?_
  refine hV.getf dX0_copyFrom_36 fl_X0_18 B_o rfl ?_
  refine hV.iconst (v := 0) dX0_copyFrom_39 (by decide) ?_
  refine hV.bipush (v := 56) dX0_copyFrom_40 (by decide) ?_
  refine hV.copyi dX0_copyFrom_42 ka_X0_51 ((zobj_out (by omega)).trans B_a2) B_a2 (j := 56) ⟨by decide, by decide⟩ (by decide) (by decide) (by decide) (by decide) (by decide) B_q2 ?_
  refine hV.aload_n 1 dX0_copyFrom_45 rfl ?_
  refine hV.getf dX0_copyFrom_46 fl_X0_21 ((zobj_out (by omega)).trans B_o) rfl ?_
  refine hV.iconst (v := 0) dX0_copyFrom_49 (by decide) ?_
  refine hV.aload_n 0 dX0_copyFrom_50 rfl ?_
  refine hV.getf dX0_copyFrom_51 fl_X0_21 B_o rfl ?_
  refine hV.iconst (v := 0) dX0_copyFrom_54 (by decide) ?_
  refine hV.bipush (v := 8) dX0_copyFrom_55 (by decide) ?_
  refine hV.copyi dX0_copyFrom_57 ka_X0_51 ((zobj_out (by omega)).trans B_a3) B_a3 (j := 8) ⟨by decide, by decide⟩ (by decide) (by decide) (by decide) (by decide) (by decide) B_q3 ?_
  refine hV.aload_n 1 dX0_copyFrom_60 rfl ?_
  refine hV.getf dX0_copyFrom_61 fl_X0_24 ((zobj_out (by omega)).trans B_o) rfl ?_
  refine hV.iconst (v := 0) dX0_copyFrom_64 (by decide) ?_
  refine hV.aload_n 0 dX0_copyFrom_65 rfl ?_
  refine hV.getf dX0_copyFrom_66 fl_X0_24 B_o rfl ?_
  refine hV.iconst (v := 0) dX0_copyFrom_69 (by decide) ?_
  refine hV.bipush (v := 7) dX0_copyFrom_70 (by decide) ?_
  refine hV.copyi dX0_copyFrom_72 ka_X0_51 ((zobj_out (by omega)).trans B_a4) B_a4 (j := 7) ⟨by decide, by decide⟩ (by decide) (by decide) (by decide) (by decide) (by decide) B_q4 ?_
  refine hV.aload_n 1 dX0_copyFrom_75 rfl ?_
  refine hV.getf dX0_copyFrom_76 fl_X0_27 ((zobj_out (by omega)).trans B_o) rfl ?_
  refine hV.iconst (v := 0) dX0_copyFrom_79 (by decide) ?_
  refine hV.aload_n 0 dX0_copyFrom_80 rfl ?_
  refine hV.getf dX0_copyFrom_81 fl_X0_27 B_o rfl ?_
  refine hV.iconst (v := 0) dX0_copyFrom_84 (by decide) ?_
  refine hV.bipush (v := 7) dX0_copyFrom_85 (by decide) ?_
  refine hV.copyi dX0_copyFrom_87 ka_X0_51 ((zobj_out (by omega)).trans B_a5) B_a5 (j := 7) ⟨by decide, by decide⟩ (by decide) (by decide) (by decide) (by decide) (by decide) B_q5 ?_
  refine hV.aload_n 1 dX0_copyFrom_90 rfl ?_
  refine hV.getf dX0_copyFrom_91 fl_X0_30 ((zobj_out (by omega)).trans B_o) rfl ?_
  refine hV.iconst (v := 0) dX0_copyFrom_94 (by decide) ?_
  refine hV.aload_n 0 dX0_copyFrom_95 rfl ?_
  refine hV.getf dX0_copyFrom_96 fl_X0_30 B_o rfl ?_
  refine hV.iconst (v := 0) dX0_copyFrom_99 (by decide) ?_
  refine hV.bipush (v := 7) dX0_copyFrom_100 (by decide) ?_
  refine hV.copyi dX0_copyFrom_102 ka_X0_51 ((zobj_out (by omega)).trans B_a6) B_a6 (j := 7) ⟨by decide, by decide⟩ (by decide) (by decide) (by decide) (by decide) (by decide) B_q6 ?_
  refine hV.aload_n 1 dX0_copyFrom_105 rfl ?_
  refine hV.getf dX0_copyFrom_106 fl_X0_33 ((zobj_out (by omega)).trans B_o) rfl ?_
  refine hV.iconst (v := 0) dX0_copyFrom_109 (by decide) ?_
  refine hV.aload_n 0 dX0_copyFrom_110 rfl ?_
  refine hV.getf dX0_copyFrom_111 fl_X0_33 B_o rfl ?_
  refine hV.iconst (v := 0) dX0_copyFrom_114 (by decide) ?_
  refine hV.bipush (v := 7) dX0_copyFrom_115 (by decide) ?_
  refine hV.copyi dX0_copyFrom_117 ka_X0_51 ((zobj_out (by omega)).trans B_a7) B_a7 (j := 7) ⟨by decide, by decide⟩ (by decide) (by decide) (by decide) (by decide) (by decide) B_q7 ?_
  refine hV.aload_n 1 dX0_copyFrom_120 rfl ?_
  refine hV.getf dX0_copyFrom_121 fl_X0_36 ((zobj_out (by omega)).trans B_o) rfl ?_
  refine hV.iconst (v := 0) dX0_copyFrom_124 (by decide) ?_
  refine hV.aload_n 0 dX0_copyFrom_125 rfl ?_
  refine hV.getf dX0_copyFrom_126 fl_X0_36 B_o rfl ?_
  refine hV.iconst (v := 0) dX0_copyFrom_129 (by decide) ?_
  refine hV.bipush (v := 7) dX0_copyFrom_130 (by decide) ?_
  refine hV.copyi dX0_copyFrom_132 ka_X0_51 ((zobj_out (by omega)).trans B_a8) B_a8 (j := 7) ⟨by decide, by decide⟩ (by decide) (by decide) (by decide) (by decide) (by decide) B_q8 ?_
  refine hV.aload_n 1 dX0_copyFrom_135 rfl ?_
  refine hV.getf dX0_copyFrom_136 fl_X0_39 ((zobj_out (by omega)).trans B_o) rfl ?_
  refine hV.iconst (v := 0) dX0_copyFrom_139 (by decide) ?_
  refine hV.aload_n 0 dX0_copyFrom_140 rfl ?_
  refine hV.getf dX0_copyFrom_141 fl_X0_39 B_o rfl ?_
  refine hV.iconst (v := 0) dX0_copyFrom_144 (by decide) ?_
  refine hV.iconst (v := 3) dX0_copyFrom_145 (by decide) ?_
  refine hV.copyi dX0_copyFrom_146 ka_X0_51 ((zobj_out (by omega)).trans B_a9) B_a9 (j := 3) ⟨by decide, by decide⟩ (by decide) (by decide) (by decide) (by decide) (by decide) B_q9 ?_
  exact hE.2.2.2 dX0_copyFrom_149 rfl (by decide) (by decide) (zRv (by congr 1; funext j; unfold cpB sa; by_cases hj : j < 10; (rw [if_pos hj]; rcases (show j = 0 ∨ j = 1 ∨ j = 2 ∨ j = 3 ∨ j = 4 ∨ j = 5 ∨ j = 6 ∨ j = 7 ∨ j = 8 ∨ j = 9 by omega) with rfl | rfl | rfl | rfl | rfl | rfl | rfl | rfl | rfl | rfl <;> rfl); (rw [if_neg hj]; simp only [show j ≠ 0 by omega, show j ≠ 1 by omega, show j ≠ 2 by omega, show j ≠ 3 by omega, show j ≠ 4 by omega, show j ≠ 5 by omega, show j ≠ 6 by omega, show j ≠ 7 by omega, show j ≠ 8 by omega, show j ≠ 9 by omega, if_false])) rfl)

