/-! Objects being made -/
def z0 : zB := fun _ _ => 0
theorem zobj_new {o : Nat × List Value} {ln : Nat → Nat} {β : zB} {b : Nat} {h : zH} : zput h b (some (.inr o)) = zobj o 0 ln β b h := by
  funext q
  unfold zput zobj
  split
  · rfl
  · rw [if_neg (by omega)]
theorem zobj_push {o : Nat × List Value} {k : Nat} {ln : Nat → Nat} {β : zB} {b : Nat} {h : zH} : zput (zobj o k ln β b h) (b + (k + 1)) (some (.inl (ln k, .inl (β k)))) = zobj o (k + 1) ln β b h := by
  funext q
  unfold zput zobj
  by_cases h1 : q = b + (k + 1)
  · subst h1
    rw [if_pos rfl, if_neg (by omega), if_pos (by omega), show b + (k + 1) - b - 1 = k by omega]
  · rw [if_neg h1]
    by_cases h2 : q = b
    · rw [if_pos h2, if_pos h2]
    · rw [if_neg h2, if_neg h2]
      by_cases h3 : b < q ∧ q ≤ b + k
      · rw [if_pos h3, if_pos (by omega)]
      · rw [if_neg h3, if_neg (by omega)]

set_option maxRecDepth 100000 in
set_option maxHeartbeats 4000000 in
theorem c_X2_init {l : Launch} {D : va_G} {base : Nat} (G : l.stackTraces = false) {h : zH} {n : Nat} {b : Nat} :
    zCt l D base 1 yX2_init w_X2_init [.ref b] (zobj (2, [.null, .null, .null]) 0 lnP z0 b h) (b + 1) 3 21 (zR none (setP h b z0) (b + 4)) := by
  refine zCt.of G (by decide) (Nat.le_of_ble_eq_true rfl) (fun Sx V X hV hE hX => ?_)
  show V 0 [(0, .ref b)] [] (zobj (2, [.null, .null, .null]) 0 lnP z0 b h) (b + 1) 0 0
  refine hV.aload_n 0 dX2_init_0 rfl ?_
  refine hV.objInit dX2_init_1 ko_X2_3 (by decide) (by decide) (by decide) ?_
  refine hV.aload_n 0 dX2_init_4 rfl ?_
  refine hV.bipush (v := 7) dX2_init_5 (by decide) ?_
  refine hV.newi (N := 7) (h2 := zobj (2, [.null, .null, .null]) 1 lnP z0 b h) dX2_init_7 ⟨by decide, by decide⟩ (by decide) (Nat.le_of_ble_eq_true rfl) (Nat.le_of_ble_eq_true rfl) zobj_push ?_
  refine hV.putF (h2 := zobj (2, [.ref (b + 1), .null, .null]) 1 lnP z0 b h) dX2_init_9 rfl fp_X2_9 zobj_o (Nat.le_of_ble_eq_true rfl) rfl rfl zobj_po ?_
  refine hV.aload_n 0 dX2_init_12 rfl ?_
  refine hV.bipush (v := 7) dX2_init_13 (by decide) ?_
  refine hV.newi (N := 7) (h2 := zobj (2, [.ref (b + 1), .null, .null]) 2 lnP z0 b h) dX2_init_15 ⟨by decide, by decide⟩ (by decide) (Nat.le_of_ble_eq_true rfl) (Nat.le_of_ble_eq_true rfl) zobj_push ?_
  refine hV.putF (h2 := zobj (2, [.ref (b + 1), .ref (b + 2), .null]) 2 lnP z0 b h) dX2_init_17 rfl fp_X2_15 zobj_o (Nat.le_of_ble_eq_true rfl) rfl rfl zobj_po ?_
  refine hV.aload_n 0 dX2_init_20 rfl ?_
  refine hV.bipush (v := 7) dX2_init_21 (by decide) ?_
  refine hV.newi (N := 7) (h2 := zobj (2, [.ref (b + 1), .ref (b + 2), .null]) 3 lnP z0 b h) dX2_init_23 ⟨by decide, by decide⟩ (by decide) (Nat.le_of_ble_eq_true rfl) (Nat.le_of_ble_eq_true rfl) zobj_push ?_
  refine hV.putF (h2 := zobj (2, [.ref (b + 1), .ref (b + 2), .ref (b + 3)]) 3 lnP z0 b h) dX2_init_25 rfl fp_X2_18 zobj_o (Nat.le_of_ble_eq_true rfl) rfl rfl zobj_po ?_
  refine zHeap (h2 := setP h b z0) rfl ?_
  exact hE.2.2.2 dX2_init_28 rfl (by decide) (by decide) (zRv rfl rfl)

set_option maxRecDepth 100000 in
set_option maxHeartbeats 4000000 in
theorem c_X3_init {l : Launch} {D : va_G} {base : Nat} (G : l.stackTraces = false) {h : zH} {n : Nat} {b : Nat} :
    zCt l D base 1 yX3_init w_X3_init [.ref b] (zobj (3, [.null, .int 0]) 0 lnT z0 b h) (b + 1) 1 60 (zR none (setT h b (va_up (fun _ => 0) 0 0) z0) (b + 2)) := by
  refine zCt.of G (by decide) (Nat.le_of_ble_eq_true rfl) (fun Sx V X hV hE hX => ?_)
  show V 0 [(0, .ref b)] [] (zobj (3, [.null, .int 0]) 0 lnT z0 b h) (b + 1) 0 0
  refine hV.aload_n 0 dX3_init_0 rfl ?_
  refine hV.objInit dX3_init_1 ko_X3_3 (by decide) (by decide) (by decide) ?_
  refine hV.aload_n 0 dX3_init_4 rfl ?_
  refine hV.bipush (v := 60) dX3_init_5 (by decide) ?_
  refine hV.newi (N := 60) (h2 := zobj (3, [.null, .int 0]) 1 lnT z0 b h) dX3_init_7 ⟨by decide, by decide⟩ (by decide) (Nat.le_of_ble_eq_true rfl) (Nat.le_of_ble_eq_true rfl) zobj_push ?_
  refine hV.putF (h2 := zobj (3, [.ref (b + 1), .int 0]) 1 lnT z0 b h) dX3_init_9 rfl fp_X3_9 zobj_o (Nat.le_of_ble_eq_true rfl) rfl rfl zobj_po ?_
  refine zHeap (h2 := setT h b (fun _ => 0) z0) rfl ?_
  refine hV.aload_n 0 dX3_init_12 rfl ?_
  refine hV.iconst (v := 0) dX3_init_13 (by decide) ?_
  refine hV.putf dX3_init_14 fp_X3_15 T_o (Nat.le_of_ble_eq_true rfl) rfl rfl T_f0 ?_
  exact hE.2.2.2 dX3_init_17 rfl (by decide) (by decide) (zRv rfl rfl)

def bd0 : zB := up2 (up2 (up2 (sa (sa (sa (up2 (up2 (up2 (up2 (up2 z0 0 11 (-1)) 0 12 3) 0 13 1) 0 14 6) 0 15 8) 3 (filF (z0 3) 8 (-1))) 4 (va_cpy zfk (z0 4) 0 0 7)) 5 (va_cpy zfp (z0 5) 0 0 7)) 9 0 0) 9 1 1) 9 2 2
set_option maxRecDepth 100000 in
set_option maxHeartbeats 4000000 in
theorem c_X0_init {l : Launch} {D : va_G} {base : Nat} (G : l.stackTraces = false) {h : zH} {n : Nat} {b : Nat} :
    zCt l D base 2 yX0_init w_X0_init [.ref b] (zobj (0, [.null, .null, .null, .null, .null, .null, .null, .null, .null, .null]) 0 lnB z0 b h) (b + 1) 10 225 (zR none (setB h b bd0) (b + 11)) := by
  refine zCt.of G (by decide) (Nat.le_of_ble_eq_true rfl) (fun Sx V X hV hE hX => ?_)
  show V 0 [(0, .ref b)] [] (zobj (0, [.null, .null, .null, .null, .null, .null, .null, .null, .null, .null]) 0 lnB z0 b h) (b + 1) 0 0
  refine hV.aload_n 0 dX0_init_0 rfl ?_
  refine hV.objInit dX0_init_1 ko_X0_3 (by decide) (by decide) (by decide) ?_
  refine hV.aload_n 0 dX0_init_4 rfl ?_
  refine hV.bipush (v := 17) dX0_init_5 (by decide) ?_
  refine hV.newi (N := 17) (h2 := zobj (0, [.null, .null, .null, .null, .null, .null, .null, .null, .null, .null]) 1 lnB z0 b h) dX0_init_7 ⟨by decide, by decide⟩ (by decide) (Nat.le_of_ble_eq_true rfl) (Nat.le_of_ble_eq_true rfl) zobj_push ?_
  refine hV.putF (h2 := zobj (0, [.ref (b + 1), .null, .null, .null, .null, .null, .null, .null, .null, .null]) 1 lnB z0 b h) dX0_init_9 rfl fp_X0_9 zobj_o (Nat.le_of_ble_eq_true rfl) rfl rfl zobj_po ?_
  refine hV.aload_n 0 dX0_init_12 rfl ?_
  refine hV.bipush (v := 56) dX0_init_13 (by decide) ?_
  refine hV.newi (N := 56) (h2 := zobj (0, [.ref (b + 1), .null, .null, .null, .null, .null, .null, .null, .null, .null]) 2 lnB z0 b h) dX0_init_15 ⟨by decide, by decide⟩ (by decide) (Nat.le_of_ble_eq_true rfl) (Nat.le_of_ble_eq_true rfl) zobj_push ?_
  refine hV.putF (h2 := zobj (0, [.ref (b + 1), .ref (b + 2), .null, .null, .null, .null, .null, .null, .null, .null]) 2 lnB z0 b h) dX0_init_17 rfl fp_X0_15 zobj_o (Nat.le_of_ble_eq_true rfl) rfl rfl zobj_po ?_
  refine hV.aload_n 0 dX0_init_20 rfl ?_
  refine hV.bipush (v := 56) dX0_init_21 (by decide) ?_
  refine hV.newi (N := 56) (h2 := zobj (0, [.ref (b + 1), .ref (b + 2), .null, .null, .null, .null, .null, .null, .null, .null]) 3 lnB z0 b h) dX0_init_23 ⟨by decide, by decide⟩ (by decide) (Nat.le_of_ble_eq_true rfl) (Nat.le_of_ble_eq_true rfl) zobj_push ?_
  refine hV.putF (h2 := zobj (0, [.ref (b + 1), .ref (b + 2), .ref (b + 3), .null, .null, .null, .null, .null, .null, .null]) 3 lnB z0 b h) dX0_init_25 rfl fp_X0_18 zobj_o (Nat.le_of_ble_eq_true rfl) rfl rfl zobj_po ?_
  refine hV.aload_n 0 dX0_init_28 rfl ?_
  refine hV.bipush (v := 8) dX0_init_29 (by decide) ?_
  refine hV.newi (N := 8) (h2 := zobj (0, [.ref (b + 1), .ref (b + 2), .ref (b + 3), .null, .null, .null, .null, .null, .null, .null]) 4 lnB z0 b h) dX0_init_31 ⟨by decide, by decide⟩ (by decide) (Nat.le_of_ble_eq_true rfl) (Nat.le_of_ble_eq_true rfl) zobj_push ?_
  refine hV.putF (h2 := zobj (0, [.ref (b + 1), .ref (b + 2), .ref (b + 3), .ref (b + 4), .null, .null, .null, .null, .null, .null]) 4 lnB z0 b h) dX0_init_33 rfl fp_X0_21 zobj_o (Nat.le_of_ble_eq_true rfl) rfl rfl zobj_po ?_
  refine hV.aload_n 0 dX0_init_36 rfl ?_
  refine hV.bipush (v := 7) dX0_init_37 (by decide) ?_
  refine hV.newi (N := 7) (h2 := zobj (0, [.ref (b + 1), .ref (b + 2), .ref (b + 3), .ref (b + 4), .null, .null, .null, .null, .null, .null]) 5 lnB z0 b h) dX0_init_39 ⟨by decide, by decide⟩ (by decide) (Nat.le_of_ble_eq_true rfl) (Nat.le_of_ble_eq_true rfl) zobj_push ?_
  refine hV.putF (h2 := zobj (0, [.ref (b + 1), .ref (b + 2), .ref (b + 3), .ref (b + 4), .ref (b + 5), .null, .null, .null, .null, .null]) 5 lnB z0 b h) dX0_init_41 rfl fp_X0_24 zobj_o (Nat.le_of_ble_eq_true rfl) rfl rfl zobj_po ?_
  refine hV.aload_n 0 dX0_init_44 rfl ?_
  refine hV.bipush (v := 7) dX0_init_45 (by decide) ?_
  refine hV.newi (N := 7) (h2 := zobj (0, [.ref (b + 1), .ref (b + 2), .ref (b + 3), .ref (b + 4), .ref (b + 5), .null, .null, .null, .null, .null]) 6 lnB z0 b h) dX0_init_47 ⟨by decide, by decide⟩ (by decide) (Nat.le_of_ble_eq_true rfl) (Nat.le_of_ble_eq_true rfl) zobj_push ?_
  refine hV.putF (h2 := zobj (0, [.ref (b + 1), .ref (b + 2), .ref (b + 3), .ref (b + 4), .ref (b + 5), .ref (b + 6), .null, .null, .null, .null]) 6 lnB z0 b h) dX0_init_49 rfl fp_X0_27 zobj_o (Nat.le_of_ble_eq_true rfl) rfl rfl zobj_po ?_
  refine hV.aload_n 0 dX0_init_52 rfl ?_
  refine hV.bipush (v := 7) dX0_init_53 (by decide) ?_
  refine hV.newi (N := 7) (h2 := zobj (0, [.ref (b + 1), .ref (b + 2), .ref (b + 3), .ref (b + 4), .ref (b + 5), .ref (b + 6), .null, .null, .null, .null]) 7 lnB z0 b h) dX0_init_55 ⟨by decide, by decide⟩ (by decide) (Nat.le_of_ble_eq_true rfl) (Nat.le_of_ble_eq_true rfl) zobj_push ?_
  refine hV.putF (h2 := zobj (0, [.ref (b + 1), .ref (b + 2), .ref (b + 3), .ref (b + 4), .ref (b + 5), .ref (b + 6), .ref (b + 7), .null, .null, .null]) 7 lnB z0 b h) dX0_init_57 rfl fp_X0_30 zobj_o (Nat.le_of_ble_eq_true rfl) rfl rfl zobj_po ?_
  refine hV.aload_n 0 dX0_init_60 rfl ?_
  refine hV.bipush (v := 7) dX0_init_61 (by decide) ?_
  refine hV.newi (N := 7) (h2 := zobj (0, [.ref (b + 1), .ref (b + 2), .ref (b + 3), .ref (b + 4), .ref (b + 5), .ref (b + 6), .ref (b + 7), .null, .null, .null]) 8 lnB z0 b h) dX0_init_63 ⟨by decide, by decide⟩ (by decide) (Nat.le_of_ble_eq_true rfl) (Nat.le_of_ble_eq_true rfl) zobj_push ?_
  refine hV.putF (h2 := zobj (0, [.ref (b + 1), .ref (b + 2), .ref (b + 3), .ref (b + 4), .ref (b + 5), .ref (b + 6), .ref (b + 7), .ref (b + 8), .null, .null]) 8 lnB z0 b h) dX0_init_65 rfl fp_X0_33 zobj_o (Nat.le_of_ble_eq_true rfl) rfl rfl zobj_po ?_
  refine hV.aload_n 0 dX0_init_68 rfl ?_
  refine hV.bipush (v := 7) dX0_init_69 (by decide) ?_
  refine hV.newi (N := 7) (h2 := zobj (0, [.ref (b + 1), .ref (b + 2), .ref (b + 3), .ref (b + 4), .ref (b + 5), .ref (b + 6), .ref (b + 7), .ref (b + 8), .null, .null]) 9 lnB z0 b h) dX0_init_71 ⟨by decide, by decide⟩ (by decide) (Nat.le_of_ble_eq_true rfl) (Nat.le_of_ble_eq_true rfl) zobj_push ?_
  refine hV.putF (h2 := zobj (0, [.ref (b + 1), .ref (b + 2), .ref (b + 3), .ref (b + 4), .ref (b + 5), .ref (b + 6), .ref (b + 7), .ref (b + 8), .ref (b + 9), .null]) 9 lnB z0 b h) dX0_init_73 rfl fp_X0_36 zobj_o (Nat.le_of_ble_eq_true rfl) rfl rfl zobj_po ?_
  refine hV.aload_n 0 dX0_init_76 rfl ?_
  refine hV.iconst (v := 3) dX0_init_77 (by decide) ?_
  refine hV.newi (N := 3) (h2 := zobj (0, [.ref (b + 1), .ref (b + 2), .ref (b + 3), .ref (b + 4), .ref (b + 5), .ref (b + 6), .ref (b + 7), .ref (b + 8), .ref (b + 9), .null]) 10 lnB z0 b h) dX0_init_78 ⟨by decide, by decide⟩ (by decide) (Nat.le_of_ble_eq_true rfl) (Nat.le_of_ble_eq_true rfl) zobj_push ?_
  refine hV.putF (h2 := zobj (0, [.ref (b + 1), .ref (b + 2), .ref (b + 3), .ref (b + 4), .ref (b + 5), .ref (b + 6), .ref (b + 7), .ref (b + 8), .ref (b + 9), .ref (b + 10)]) 10 lnB z0 b h) dX0_init_80 rfl fp_X0_39 zobj_o (Nat.le_of_ble_eq_true rfl) rfl rfl zobj_po ?_
  refine zHeap (h2 := setB h b z0) rfl ?_
  refine hV.aload_n 0 dX0_init_83 rfl ?_
  refine hV.getf (v := .ref (b + 1)) dX0_init_84 fl_X0_9 B_o rfl ?_
  refine hV.bipush (v := 11) dX0_init_87 (by decide) ?_
  refine hV.iconst (v := (-1)) dX0_init_89 (by decide) ?_
  refine hV.iast (j := 11) dX0_init_90 B_a0 ⟨by decide, by decide⟩ (by decide) B_p0 ?_
  refine hV.aload_n 0 dX0_init_91 rfl ?_
  refine hV.getf (v := .ref (b + 1)) dX0_init_92 fl_X0_9 B_o rfl ?_
  refine hV.bipush (v := 12) dX0_init_95 (by decide) ?_
  refine hV.iconst (v := 3) dX0_init_97 (by decide) ?_
  refine hV.iast (j := 12) dX0_init_98 B_a0 ⟨by decide, by decide⟩ (by decide) B_p0 ?_
  refine hV.aload_n 0 dX0_init_99 rfl ?_
  refine hV.getf (v := .ref (b + 1)) dX0_init_100 fl_X0_9 B_o rfl ?_
  refine hV.bipush (v := 13) dX0_init_103 (by decide) ?_
  refine hV.iconst (v := 1) dX0_init_105 (by decide) ?_
  refine hV.iast (j := 13) dX0_init_106 B_a0 ⟨by decide, by decide⟩ (by decide) B_p0 ?_
  refine hV.aload_n 0 dX0_init_107 rfl ?_
  refine hV.getf (v := .ref (b + 1)) dX0_init_108 fl_X0_9 B_o rfl ?_
  refine hV.bipush (v := 14) dX0_init_111 (by decide) ?_
  refine hV.bipush (v := 6) dX0_init_113 (by decide) ?_
  refine hV.iast (j := 14) dX0_init_115 B_a0 ⟨by decide, by decide⟩ (by decide) B_p0 ?_
  refine hV.aload_n 0 dX0_init_116 rfl ?_
  refine hV.getf (v := .ref (b + 1)) dX0_init_117 fl_X0_9 B_o rfl ?_
  refine hV.bipush (v := 15) dX0_init_120 (by decide) ?_
  refine hV.bipush (v := 8) dX0_init_122 (by decide) ?_
  refine hV.iast (j := 15) dX0_init_124 B_a0 ⟨by decide, by decide⟩ (by decide) B_p0 ?_
  refine hV.aload_n 0 dX0_init_125 rfl ?_
  refine hV.getf (v := .ref (b + 4)) dX0_init_126 fl_X0_21 B_o rfl ?_
  refine hV.iconst (v := (-1)) dX0_init_129 (by decide) ?_
  refine hV.callS1 (rest := []) dX0_init_130 (c_J7_fill_53178 G (v := (-1)) B_a3 (by decide)) my_J7_fill_53178 ks_X0_42 rfl rfl (Nat.le_of_ble_eq_true rfl) (Nat.le_of_ble_eq_true rfl) (Nat.le_of_ble_eq_true rfl) (Nat.le_of_ble_eq_true rfl) (Nat.le_of_ble_eq_true rfl) (st2 := []) (k2 := 10) (g2 := 175) rfl rfl rfl ?_
  refine zHeap (h2 := setB h b (sa (up2 (up2 (up2 (up2 (up2 z0 0 11 (-1)) 0 12 3) 0 13 1) 0 14 6) 0 15 8) 3 (filF ((up2 (up2 (up2 (up2 (up2 z0 0 11 (-1)) 0 12 3) 0 13 1) 0 14 6) 0 15 8) 3) 8 (-1)))) B_q3 ?_
  refine hV.getsK dX0_init_133 fn_X0_48 (fun t1 ht1 => ?_)
  refine hV.iconst (v := 0) dX0_init_136 (by decide) ?_
  refine hV.aload_n 0 dX0_init_137 rfl ?_
  refine hV.getf (v := .ref (b + 5)) dX0_init_138 fl_X0_24 B_o rfl ?_
  refine hV.iconst (v := 0) dX0_init_141 (by decide) ?_
  refine hV.bipush (v := 7) dX0_init_142 (by decide) ?_
  refine hV.copyx dX0_init_144 ka_X0_51 ht1 B_a4 (by decide) (Nat.le_of_ble_eq_true rfl) (Nat.le_of_ble_eq_true rfl) (by decide) B_q4 ?_
  refine hV.getsP dX0_init_147 fn_X0_57 (fun t2 ht2 => ?_)
  refine hV.iconst (v := 0) dX0_init_150 (by decide) ?_
  refine hV.aload_n 0 dX0_init_151 rfl ?_
  refine hV.getf (v := .ref (b + 6)) dX0_init_152 fl_X0_27 B_o rfl ?_
  refine hV.iconst (v := 0) dX0_init_155 (by decide) ?_
  refine hV.bipush (v := 7) dX0_init_156 (by decide) ?_
  refine hV.copyx dX0_init_158 ka_X0_51 ht2 B_a5 (by decide) (Nat.le_of_ble_eq_true rfl) (Nat.le_of_ble_eq_true rfl) (by decide) B_q5 ?_
  refine hV.iconst (v := 0) dX0_init_161 (by decide) ?_
  refine hV.istore_n (ls2 := [(1, .int 0), (0, .ref b)]) dX0_init_162 (by decide) rfl ?_
  refine hV.iload_n 0 dX0_init_163 rfl ?_
  refine hV.iconst (v := 3) dX0_init_164 (by decide) ?_
  refine hV.icmp_ge_f (tgt := 181) dX0_init_165 (by decide) (by decide) ?_
  refine hV.aload_n 1 dX0_init_168 rfl ?_
  refine hV.getf (v := .ref (b + 10)) dX0_init_169 fl_X0_39 B_o rfl ?_
  refine hV.iload_n 0 dX0_init_172 rfl ?_
  refine hV.iload_n 0 dX0_init_173 rfl ?_
  refine hV.iast (j := 0) dX0_init_174 B_a9 ⟨by decide, by decide⟩ (by decide) B_p9 ?_
  refine hV.iinc 0 (v := 1) (ls2 := [(1, .int 1), (0, .ref b)]) dX0_init_175 rfl (by decide) (by decide) rfl ?_
  refine hV.goto (tgt := 163) dX0_init_178 (by decide) ?_
  refine hV.iload_n 0 dX0_init_163 rfl ?_
  refine hV.iconst (v := 3) dX0_init_164 (by decide) ?_
  refine hV.icmp_ge_f (tgt := 181) dX0_init_165 (by decide) (by decide) ?_
  refine hV.aload_n 1 dX0_init_168 rfl ?_
  refine hV.getf (v := .ref (b + 10)) dX0_init_169 fl_X0_39 B_o rfl ?_
  refine hV.iload_n 0 dX0_init_172 rfl ?_
  refine hV.iload_n 0 dX0_init_173 rfl ?_
  refine hV.iast (j := 1) dX0_init_174 B_a9 ⟨by decide, by decide⟩ (by decide) B_p9 ?_
  refine hV.iinc 0 (v := 2) (ls2 := [(1, .int 2), (0, .ref b)]) dX0_init_175 rfl (by decide) (by decide) rfl ?_
  refine hV.goto (tgt := 163) dX0_init_178 (by decide) ?_
  refine hV.iload_n 0 dX0_init_163 rfl ?_
  refine hV.iconst (v := 3) dX0_init_164 (by decide) ?_
  refine hV.icmp_ge_f (tgt := 181) dX0_init_165 (by decide) (by decide) ?_
  refine hV.aload_n 1 dX0_init_168 rfl ?_
  refine hV.getf (v := .ref (b + 10)) dX0_init_169 fl_X0_39 B_o rfl ?_
  refine hV.iload_n 0 dX0_init_172 rfl ?_
  refine hV.iload_n 0 dX0_init_173 rfl ?_
  refine hV.iast (j := 2) dX0_init_174 B_a9 ⟨by decide, by decide⟩ (by decide) B_p9 ?_
  refine hV.iinc 0 (v := 3) (ls2 := [(1, .int 3), (0, .ref b)]) dX0_init_175 rfl (by decide) (by decide) rfl ?_
  refine hV.goto (tgt := 163) dX0_init_178 (by decide) ?_
  refine hV.iload_n 0 dX0_init_163 rfl ?_
  refine hV.iconst (v := 3) dX0_init_164 (by decide) ?_
  refine hV.icmp_ge_t (tgt := 181) dX0_init_165 (by decide) (by decide) ?_
  exact hE.2.2.2 dX0_init_181 rfl (by decide) (by decide) (zRv (by first | rfl | (simp only [bd0, up2_sa, sa_z, sa_at]; rfl)) rfl)

def zM0 : zZ := va_up (va_up (va_up (va_up (va_up (va_up (va_up (va_up (va_up (va_up (va_up (va_up (va_up (va_up (va_up (va_up (va_up (va_up (va_up (va_up (va_up (va_up (va_up (va_up (va_up (va_up (va_up (va_up (va_up (va_up (z0 0) 0 1) 12 (-1)) 13 3) 14 6) 15 8) 17 0) 18 1) 19 2) (132 + 5 * 0) 0) (132 + 5 * 0 + 1) 0) (132 + 5 * 1) 2) (132 + 5 * 1 + 1) 3) (132 + 5 * 2) 1) (132 + 5 * 2 + 1) 10) (132 + 5 * 3) 0) (132 + 5 * 3 + 1) 2) (132 + 5 * 4) 1) (132 + 5 * 4 + 1) 10) (132 + 5 * 5) 2) (132 + 5 * 5 + 1) 3) (132 + 5 * 6) 0) (132 + 5 * 6 + 1) 0) 167 (-1)) 168 (-1)) 169 (-1)) 170 (-1)) 171 (-1)) 172 (-1)) 173 (-1)) 174 (-1)
