/-! The law's methods on its own arrays: 19 numbers g, 56 pins, 35 numbers of pockets k, 8 touched pins t -/
theorem zput_sw {h : zH} {a b : Nat} {c d : zC} (hab : a ≠ b) : zput (zput h b d) a c = zput (zput h a c) b d := by
  funext q
  unfold zput
  by_cases e : q = a
  · rw [if_pos e, if_neg (by omega), if_pos e]
  · rw [if_neg e, if_neg e]
def lowL (v n : Int32) : Int32 := (v &&& 2147483647) - (v &&& 2147483647) / n * n
def nxG (x : Int32) : Int32 := Int64.toInt32 ((Int32.toInt64 x * 1103515245 + 12345) &&& 2147483647)
def drL (g : Nat → Int32) : Nat → Int32 := va_up g 13 (nxG (g 13))
def drLv (g : Nat → Int32) (m : Int32) : Int32 := (nxG (g 13) >>> (16 &&& 31)) - (nxG (g 13) >>> (16 &&& 31)) / m * m
def spLm (g : Nat → Int32) : Int32 := if g 10 ≤ 0 then 8 else 4
def spL1 (g : Nat → Int32) : Nat → Int32 := va_up (va_up g 6 (g 6 - 1)) 7 (g 7 + 1)
def spL2 (g : Nat → Int32) : Nat → Int32 := va_up (spL1 g) 10 (if g 10 ≤ 0 then 0 else g 10 - 1)
def spLr (g : Nat → Int32) (m : Int32) (r : Nat) : Nat → Int32 := va_up (drL g) (16 + r) (drLv g m)
def spL3 (g : Nat → Int32) (m : Int32) : Nat → Int32 := spLr (spLr (spLr g m 0) m 1) m 2
def spLa (g : Nat → Int32) : Nat → Int32 := va_up (va_up (va_up g 9 (g 14)) 8 (g 8 + 1)) 10 (g 15)
def spLb (g : Nat → Int32) : Nat → Int32 := va_up (va_up (va_up g 9 0) 8 (g 8 + 0)) 10 (g 10)
def spL4 (g : Nat → Int32) : Nat → Int32 := if g 16 = g 17 then (if g 17 = g 18 then spLa g else spLb g) else spLb g
def spL (g : Nat → Int32) : Nat → Int32 := spL4 (spL3 (spL2 g) (spLm g))
def opT (k : Nat → Int32) (p : Nat) : Int32 := if k (5 * p) = 2 then (if k ((5 * p) + 2) = 1 then 1 else 0) else 0
def opL (g k : Nat → Int32) (p : Nat) : Int32 := if k (5 * p) = 0 then 1 else if k (5 * p) = 1 then (if 0 < g 9 then 1 else opT k p) else opT k p
def lcL1 (g : Nat → Int32) : Nat → Int32 := va_up (va_up g 0 (g 0 - 1)) 2 (g 2 + 1)
def lcL2 (g : Nat → Int32) : Nat → Int32 := if g 6 ≤ 0 then g else (if g 9 = 0 then spL g else g)
def falLS (pins g t : Nat → Int32) (r c : Nat) : ((Nat → Int32) × (Nat → Int32)) × Nat := if pins ((7 * r) + c) = 0 then ((drL g, va_up t r (nI ((7 * r) + c))), bnc c (if drLv g 2 = 0 then -1 else 1)) else ((g, va_up t r (nI ((7 * r) + c))), bnc c (pins ((7 * r) + c)))
def falL (pins g t : Nat → Int32) (c : Nat) : Nat → ((Nat → Int32) × (Nat → Int32)) × Nat
  | 0 => ((g, t), c)
  | r + 1 => falLS pins (falL pins g t c r).1.1 (falL pins g t c r).1.2 r (falL pins g t c r).2
def blL (k : Nat → Int32) (p : Nat) (o : Int32) : Int32 := if o = 0 then 0 else k ((5 * p) + 1)
def coK1 (k : Nat → Int32) (p : Nat) : Nat → Int32 := if k (5 * p) = 2 then va_up k ((5 * p) + 2) (1 - k ((5 * p) + 2)) else k
def coG1 (g : Nat → Int32) (q o : Int32) : Nat → Int32 := if q = 1 then (if o = 0 then g else va_up g 9 (g 9 - 1)) else g
def coG2 (g : Nat → Int32) (b : Int32) : Nat → Int32 := va_up (va_up g 0 (g 0 + b)) 3 (g 3 + b)
def coG3 (g : Nat → Int32) (o : Int32) : Nat → Int32 := va_up g 4 (g 4 + if o = 0 then 1 else 0)
def coG4 (g : Nat → Int32) (o b : Int32) : Nat → Int32 := va_up g 5 (g 5 + if o = 0 then 0 else if b = 0 then 1 else 0)
def coK2 (k : Nat → Int32) (p : Nat) (b : Int32) : Nat → Int32 := va_up (va_up k ((5 * p) + 3) (k ((5 * p) + 3) + 1)) ((5 * p) + 4) (k ((5 * p) + 4) + b)
def coG5 (g : Nat → Int32) (p : Nat) : Nat → Int32 := va_up g 11 (nI p)
def coG6 (g : Nat → Int32) (p : Nat) : Nat → Int32 := if nI p = g 12 then (if 4 ≤ g 6 then g else va_up g 6 (g 6 + 1)) else g
def coG (g k : Nat → Int32) (p : Nat) : Nat → Int32 := coG6 (coG5 (coG4 (coG3 (coG2 (coG1 g (coK1 k p (5 * p)) (opL g k p)) (blL k p (opL g k p))) (opL g k p)) (opL g k p) (blL k p (opL g k p))) p) p
def coK (g k : Nat → Int32) (p : Nat) : Nat → Int32 := coK2 (coK1 k p) p (blL k p (opL g k p))
/-- a launch of the law: the numbers, the pockets, the touched pins, what is paid -/
def lF (pins g t : Nat → Int32) (c : Nat) : ((Nat → Int32) × (Nat → Int32)) × Nat := falL pins (lcL2 (lcL1 g)) t c 8
def lG (pins g k t : Nat → Int32) (c : Nat) : Nat → Int32 := coG (lF pins g t c).1.1 k (lF pins g t c).2
def lK (pins g k t : Nat → Int32) (c : Nat) : Nat → Int32 := coK (lF pins g t c).1.1 k (lF pins g t c).2
def lT (pins g t : Nat → Int32) (c : Nat) : Nat → Int32 := (lF pins g t c).1.2
def lV (pins g k t : Nat → Int32) (c : Nat) : Int32 := blL k (lF pins g t c).2 (opL (lF pins g t c).1.1 k (lF pins g t c).2)
theorem falL_lt (pins g t : Nat → Int32) {c : Nat} (hc : c < 7) : ∀ r, (falL pins g t c r).2 < 7
  | 0 => hc
  | r + 1 => by
    show (falLS _ _ _ _ _).2 < 7
    unfold falLS
    split
    · exact bnc_lt (falL_lt pins g t hc r)
    · exact bnc_lt (falL_lt pins g t hc r)
set_option maxRecDepth 100000 in
set_option maxHeartbeats 1000000 in
theorem c_L_low {l : Launch} {D : va_G} {base : Nat} (G : l.stackTraces = false) {h : zH} {n : Nat} {v m : Int32} (hm : ¬ m = 0) :
    zCt l D base 1 yL_low w_L_low [.int v, .int m] (h) n 0 0 (zR (some (.int (lowL v m))) (h) (n)) := by
  refine zCt.of G (by decide) (Nat.le_of_ble_eq_true rfl) (fun Sx V X hV hE hX => ?_)
  show V 0 [(0, .int v), (1, .int m)] [] (h) n 0 0
  refine hV.iload_n 0 dL_low_0 rfl ?_
  refine hV.ldc dL_low_1 kc_L_8 ?_
  refine hV.iand dL_low_3 ?_
  refine hV.iload_n 1 dL_low_4 rfl ?_
  refine hV.irem dL_low_5 hm ?_
  exact hE.1 dL_low_6 rfl rfl (by decide) (by decide) (zRi rfl rfl rfl)

set_option maxRecDepth 100000 in
set_option maxHeartbeats 1000000 in
theorem c_L_draw {l : Launch} {D : va_G} {base : Nat} (G : l.stackTraces = false) {h : zH} {n : Nat} {q : Nat} {g : Nat → Int32} {m : Int32} (hg : h q = some (.inl (19, .inl g))) (hm : ¬ m = 0) :
    zCt l D base 1 yL_draw w_L_draw [.ref q, .int m] (h) n 0 0 (zR (some (.int (drLv g m))) (zput h q (some (.inl (19, .inl (drL g))))) (n)) := by
  refine zCt.of G (by decide) (Nat.le_of_ble_eq_true rfl) (fun Sx V X hV hE hX => ?_)
  show V 0 [(0, .ref q), (1, .int m)] [] (h) n 0 0
  refine hV.aload_n 0 dL_draw_0 rfl ?_
  refine hV.bipush (v := 13) dL_draw_1 (by decide) ?_
  refine hV.aload_n 0 dL_draw_3 rfl ?_
  refine hV.bipush (v := 13) dL_draw_4 (by decide) ?_
  refine hV.iald (j := 13) dL_draw_6 hg ⟨by decide, by decide⟩ (by decide) ?_
  refine hV.i2l dL_draw_7 rfl ?_
  refine hV.ldc2 dL_draw_8 kc_L_51 ?_
  refine hV.lmul dL_draw_11 ?_
  refine hV.ldc2 dL_draw_12 kc_L_53 ?_
  refine hV.ladd dL_draw_15 ?_
  refine hV.ldc2 dL_draw_16 kc_L_55 ?_
  refine hV.land dL_draw_19 ?_
  refine hV.l2i dL_draw_20 rfl ?_
  refine hV.iast (j := 13) dL_draw_21 hg ⟨by decide, by decide⟩ (by decide) rfl ?_
  refine hV.aload_n 0 dL_draw_22 rfl ?_
  refine hV.bipush (v := 13) dL_draw_23 (by decide) ?_
  refine hV.iald (j := 13) dL_draw_25 zput_at ⟨by decide, by decide⟩ (by decide) ?_
  refine zTop (v := Int64.toInt32 ((((Int32.toInt64 (g 13)) * 1103515245) + 12345) &&& 2147483647)) (va_up_self _ _ _) ?_
  refine hV.bipush (v := 16) dL_draw_26 (by decide) ?_
  refine hV.ishr dL_draw_28 ?_
  refine hV.iload_n 1 dL_draw_29 rfl ?_
  refine hV.irem dL_draw_30 hm ?_
  exact hE.1 dL_draw_31 rfl rfl (by decide) (by decide) (zRi rfl rfl rfl)

set_option maxRecDepth 100000 in
set_option maxHeartbeats 1000000 in
theorem c_L_spin {l : Launch} {D : va_G} {base : Nat} (G : l.stackTraces = false) {h : zH} {n : Nat} {q : Nat} {g : Nat → Int32} (hg : h q = some (.inl (19, .inl g))) :
    zCt l D base 2 yL_spin w_L_spin [.ref q] (h) n 0 0 (zR none (zput h q (some (.inl (19, .inl (spL g))))) (n)) := by
  refine zCt.of G (by decide) (Nat.le_of_ble_eq_true rfl) (fun Sx V X hV hE hX => ?_)
  show V 0 [(0, .ref q)] [] (h) n 0 0
  refine hV.aload_n 0 dL_spin_0 rfl ?_
  refine hV.bipush (v := 10) dL_spin_1 (by decide) ?_
  refine hV.iald (j := 10) dL_spin_3 hg ⟨by decide, by decide⟩ (by decide) ?_
  by_cases c4_1 : (g 10) ≤ 0
  · refine hV.if_le_t (tgt := 11) dL_spin_4 (by decide) c4_1 ?_
    refine hV.bipush (v := 8) dL_spin_11 (by decide) ?_
    refine hV.istore_n (ls2 := [(1, .int 8), (0, .ref q)]) dL_spin_13 (by decide) rfl ?_
    refine hV.aload_n 1 dL_spin_14 rfl ?_
    refine hV.bipush (v := 6) dL_spin_15 (by decide) ?_
    refine hV.dup2 dL_spin_17 rfl rfl ?_
    refine hV.iald (j := 6) dL_spin_18 hg ⟨by decide, by decide⟩ (by decide) ?_
    refine hV.iconst (v := 1) dL_spin_19 (by decide) ?_
    refine hV.isub dL_spin_20 ?_
    refine hV.iast (j := 6) dL_spin_21 hg ⟨by decide, by decide⟩ (by decide) rfl ?_
    refine hV.aload_n 1 dL_spin_22 rfl ?_
    refine hV.bipush (v := 7) dL_spin_23 (by decide) ?_
    refine hV.dup2 dL_spin_25 rfl rfl ?_
    refine hV.iald (j := 7) dL_spin_26 zput_at ⟨by decide, by decide⟩ (by decide) ?_
    refine zTop (v := g 7) ((va_ne (by omega)).trans (rfl)) ?_
    refine hV.iconst (v := 1) dL_spin_27 (by decide) ?_
    refine hV.iadd dL_spin_28 ?_
    refine hV.iast (j := 7) dL_spin_29 zput_at ⟨by decide, by decide⟩ (by decide) zput_zput ?_
    refine hV.aload_n 1 dL_spin_30 rfl ?_
    refine hV.bipush (v := 10) dL_spin_31 (by decide) ?_
    refine hV.aload_n 1 dL_spin_33 rfl ?_
    refine hV.bipush (v := 10) dL_spin_34 (by decide) ?_
    refine hV.iald (j := 10) dL_spin_36 zput_at ⟨by decide, by decide⟩ (by decide) ?_
    refine zTop (v := g 10) ((va_ne (by omega)).trans ((va_ne (by omega)).trans (rfl))) ?_
    refine hV.if_le_t (tgt := 49) dL_spin_37 (by decide) c4_1 ?_
    refine hV.iconst (v := 0) dL_spin_49 (by decide) ?_
    refine hV.iast (j := 10) dL_spin_50 zput_at ⟨by decide, by decide⟩ (by decide) zput_zput ?_
    refine zHeap (h2 := zput h q (some (.inl (19, .inl (spL2 g))))) (by unfold spL2 spL1; rw [if_pos c4_1]) ?_
    refine hV.bipush (v := 16) dL_spin_51 (by decide) ?_
    refine hV.istore_n (ls2 := [(2, .int 16), (1, .int 8), (0, .ref q)]) dL_spin_53 (by decide) rfl ?_
    refine hV.iload_n 0 dL_spin_54 rfl ?_
    refine hV.bipush (v := 19) dL_spin_55 (by decide) ?_
    refine hV.icmp_ge_f (tgt := 74) dL_spin_57 (by decide) (by decide) ?_
    refine hV.aload_n 2 dL_spin_60 rfl ?_
    refine hV.iload_n 0 dL_spin_61 rfl ?_
    refine hV.aload_n 2 dL_spin_62 rfl ?_
    refine hV.iload_n 1 dL_spin_63 rfl ?_
    refine hV.callS1 (rest := [.int 16, .ref q]) dL_spin_64 (c_L_draw G (g := spL2 g) zput_at (by decide)) my_L_draw ks_L_57 rfl rfl (Nat.le_of_ble_eq_true rfl) (Nat.le_of_ble_eq_true rfl) (Nat.le_of_ble_eq_true rfl) (Nat.le_of_ble_eq_true rfl) (Nat.le_of_ble_eq_true rfl) (st2 := [.int (drLv (spL2 g) 8), .int 16, .ref q]) (k2 := 0) (g2 := 0) rfl rfl rfl ?_
    refine zHeap (h2 := zput h q (some (.inl (19, .inl (drL (spL2 g)))))) zput_zput ?_
    refine hV.iast (j := 16) dL_spin_67 zput_at ⟨by decide, by decide⟩ (by decide) zput_zput ?_
    refine hV.iinc 0 (v := 17) (ls2 := [(2, .int 17), (1, .int 8), (0, .ref q)]) dL_spin_68 rfl (by decide) (by decide) rfl ?_
    refine hV.goto (tgt := 54) dL_spin_71 (by decide) ?_
    refine hV.iload_n 0 dL_spin_54 rfl ?_
    refine hV.bipush (v := 19) dL_spin_55 (by decide) ?_
    refine hV.icmp_ge_f (tgt := 74) dL_spin_57 (by decide) (by decide) ?_
    refine hV.aload_n 2 dL_spin_60 rfl ?_
    refine hV.iload_n 0 dL_spin_61 rfl ?_
    refine hV.aload_n 2 dL_spin_62 rfl ?_
    refine hV.iload_n 1 dL_spin_63 rfl ?_
    refine hV.callS1 (rest := [.int 17, .ref q]) dL_spin_64 (c_L_draw G (g := va_up (drL (spL2 g)) 16 (drLv (spL2 g) 8)) zput_at (by decide)) my_L_draw ks_L_57 rfl rfl (Nat.le_of_ble_eq_true rfl) (Nat.le_of_ble_eq_true rfl) (Nat.le_of_ble_eq_true rfl) (Nat.le_of_ble_eq_true rfl) (Nat.le_of_ble_eq_true rfl) (st2 := [.int (drLv (va_up (drL (spL2 g)) 16 (drLv (spL2 g) 8)) 8), .int 17, .ref q]) (k2 := 0) (g2 := 0) rfl rfl rfl ?_
    refine zHeap (h2 := zput h q (some (.inl (19, .inl (drL (va_up (drL (spL2 g)) 16 (drLv (spL2 g) 8))))))) zput_zput ?_
    refine hV.iast (j := 17) dL_spin_67 zput_at ⟨by decide, by decide⟩ (by decide) zput_zput ?_
    refine hV.iinc 0 (v := 18) (ls2 := [(2, .int 18), (1, .int 8), (0, .ref q)]) dL_spin_68 rfl (by decide) (by decide) rfl ?_
    refine hV.goto (tgt := 54) dL_spin_71 (by decide) ?_
    refine hV.iload_n 0 dL_spin_54 rfl ?_
    refine hV.bipush (v := 19) dL_spin_55 (by decide) ?_
    refine hV.icmp_ge_f (tgt := 74) dL_spin_57 (by decide) (by decide) ?_
    refine hV.aload_n 2 dL_spin_60 rfl ?_
    refine hV.iload_n 0 dL_spin_61 rfl ?_
    refine hV.aload_n 2 dL_spin_62 rfl ?_
    refine hV.iload_n 1 dL_spin_63 rfl ?_
    refine hV.callS1 (rest := [.int 18, .ref q]) dL_spin_64 (c_L_draw G (g := va_up (drL (va_up (drL (spL2 g)) 16 (drLv (spL2 g) 8))) 17 (drLv (va_up (drL (spL2 g)) 16 (drLv (spL2 g) 8)) 8)) zput_at (by decide)) my_L_draw ks_L_57 rfl rfl (Nat.le_of_ble_eq_true rfl) (Nat.le_of_ble_eq_true rfl) (Nat.le_of_ble_eq_true rfl) (Nat.le_of_ble_eq_true rfl) (Nat.le_of_ble_eq_true rfl) (st2 := [.int (drLv (va_up (drL (va_up (drL (spL2 g)) 16 (drLv (spL2 g) 8))) 17 (drLv (va_up (drL (spL2 g)) 16 (drLv (spL2 g) 8)) 8)) 8), .int 18, .ref q]) (k2 := 0) (g2 := 0) rfl rfl rfl ?_
    refine zHeap (h2 := zput h q (some (.inl (19, .inl (drL (va_up (drL (va_up (drL (spL2 g)) 16 (drLv (spL2 g) 8))) 17 (drLv (va_up (drL (spL2 g)) 16 (drLv (spL2 g) 8)) 8))))))) zput_zput ?_
    refine hV.iast (j := 18) dL_spin_67 zput_at ⟨by decide, by decide⟩ (by decide) zput_zput ?_
    refine hV.iinc 0 (v := 19) (ls2 := [(2, .int 19), (1, .int 8), (0, .ref q)]) dL_spin_68 rfl (by decide) (by decide) rfl ?_
    refine hV.goto (tgt := 54) dL_spin_71 (by decide) ?_
    refine hV.iload_n 0 dL_spin_54 rfl ?_
    refine hV.bipush (v := 19) dL_spin_55 (by decide) ?_
    refine hV.icmp_ge_t (tgt := 74) dL_spin_57 (by decide) (by decide) ?_
    refine zHeap (h2 := zput h q (some (.inl (19, .inl (spL3 (spL2 g) 8))))) rfl ?_
    obtain ⟨w, hw⟩ : ∃ w : Nat → Int32, w = spL3 (spL2 g) 8 := ⟨_, rfl⟩
    rw [← hw]
    refine hV.aload_n 2 dL_spin_74 rfl ?_
    refine hV.bipush (v := 16) dL_spin_75 (by decide) ?_
    refine hV.iald (j := 16) dL_spin_77 zput_at ⟨by decide, by decide⟩ (by decide) ?_
    refine hV.aload_n 2 dL_spin_78 rfl ?_
    refine hV.bipush (v := 17) dL_spin_79 (by decide) ?_
    refine hV.iald (j := 17) dL_spin_81 zput_at ⟨by decide, by decide⟩ (by decide) ?_
    by_cases c82_2 : (w 16) = (w 17)
    · refine hV.icmp_ne_f (tgt := 100) dL_spin_82 (by decide) c82_2 ?_
      refine hV.aload_n 2 dL_spin_85 rfl ?_
      refine hV.bipush (v := 17) dL_spin_86 (by decide) ?_
      refine hV.iald (j := 17) dL_spin_88 zput_at ⟨by decide, by decide⟩ (by decide) ?_
      refine hV.aload_n 2 dL_spin_89 rfl ?_
      refine hV.bipush (v := 18) dL_spin_90 (by decide) ?_
      refine hV.iald (j := 18) dL_spin_92 zput_at ⟨by decide, by decide⟩ (by decide) ?_
      by_cases c93_3 : (w 17) = (w 18)
      · refine hV.icmp_ne_f (tgt := 100) dL_spin_93 (by decide) c93_3 ?_
        refine hV.iconst (v := 1) dL_spin_96 (by decide) ?_
        refine hV.goto (tgt := 101) dL_spin_97 (by decide) ?_
        refine hV.istore_n (ls2 := [(2, .int 1), (1, .int 8), (0, .ref q)]) dL_spin_101 (by decide) rfl ?_
        refine hV.aload_n 2 dL_spin_102 rfl ?_
        refine hV.bipush (v := 9) dL_spin_103 (by decide) ?_
        refine hV.iload_n 0 dL_spin_105 rfl ?_
        refine hV.if_eq_f (tgt := 116) dL_spin_106 (by decide) (by decide) ?_
        refine hV.aload_n 2 dL_spin_109 rfl ?_
        refine hV.bipush (v := 14) dL_spin_110 (by decide) ?_
        refine hV.iald (j := 14) dL_spin_112 zput_at ⟨by decide, by decide⟩ (by decide) ?_
        refine hV.goto (tgt := 117) dL_spin_113 (by decide) ?_
        refine hV.iast (j := 9) dL_spin_117 zput_at ⟨by decide, by decide⟩ (by decide) zput_zput ?_
        refine hV.aload_n 2 dL_spin_118 rfl ?_
        refine hV.bipush (v := 8) dL_spin_119 (by decide) ?_
        refine hV.dup2 dL_spin_121 rfl rfl ?_
        refine hV.iald (j := 8) dL_spin_122 zput_at ⟨by decide, by decide⟩ (by decide) ?_
        refine zTop (v := w 8) ((va_ne (by omega)).trans (rfl)) ?_
        refine hV.iload_n 0 dL_spin_123 rfl ?_
        refine hV.if_eq_f (tgt := 131) dL_spin_124 (by decide) (by decide) ?_
        refine hV.iconst (v := 1) dL_spin_127 (by decide) ?_
        refine hV.goto (tgt := 132) dL_spin_128 (by decide) ?_
        refine hV.iadd dL_spin_132 ?_
        refine hV.iast (j := 8) dL_spin_133 zput_at ⟨by decide, by decide⟩ (by decide) zput_zput ?_
        refine hV.aload_n 2 dL_spin_134 rfl ?_
        refine hV.bipush (v := 10) dL_spin_135 (by decide) ?_
        refine hV.iload_n 0 dL_spin_137 rfl ?_
        refine hV.if_eq_f (tgt := 148) dL_spin_138 (by decide) (by decide) ?_
        refine hV.aload_n 2 dL_spin_141 rfl ?_
        refine hV.bipush (v := 15) dL_spin_142 (by decide) ?_
        refine hV.iald (j := 15) dL_spin_144 zput_at ⟨by decide, by decide⟩ (by decide) ?_
        refine zTop (v := w 15) ((va_ne (by omega)).trans ((va_ne (by omega)).trans (rfl))) ?_
        refine hV.goto (tgt := 152) dL_spin_145 (by decide) ?_
        refine hV.iast (j := 10) dL_spin_152 zput_at ⟨by decide, by decide⟩ (by decide) zput_zput ?_
        exact hE.2.2.2 dL_spin_153 rfl (by decide) (by decide) (zRv (by have e : spL g = spL4 w := (by unfold spL spLm; rw [if_pos c4_1, ← hw]); rw [e]; unfold spL4; rw [if_pos c82_2, if_pos c93_3]; rfl) rfl)
      · refine hV.icmp_ne_t (tgt := 100) dL_spin_93 (by decide) c93_3 ?_
        refine hV.iconst (v := 0) dL_spin_100 (by decide) ?_
        refine hV.istore_n (ls2 := [(2, .int 0), (1, .int 8), (0, .ref q)]) dL_spin_101 (by decide) rfl ?_
        refine hV.aload_n 2 dL_spin_102 rfl ?_
        refine hV.bipush (v := 9) dL_spin_103 (by decide) ?_
        refine hV.iload_n 0 dL_spin_105 rfl ?_
        refine hV.if_eq_t (tgt := 116) dL_spin_106 (by decide) (by decide) ?_
        refine hV.iconst (v := 0) dL_spin_116 (by decide) ?_
        refine hV.iast (j := 9) dL_spin_117 zput_at ⟨by decide, by decide⟩ (by decide) zput_zput ?_
        refine hV.aload_n 2 dL_spin_118 rfl ?_
        refine hV.bipush (v := 8) dL_spin_119 (by decide) ?_
        refine hV.dup2 dL_spin_121 rfl rfl ?_
        refine hV.iald (j := 8) dL_spin_122 zput_at ⟨by decide, by decide⟩ (by decide) ?_
        refine zTop (v := w 8) ((va_ne (by omega)).trans (rfl)) ?_
        refine hV.iload_n 0 dL_spin_123 rfl ?_
        refine hV.if_eq_t (tgt := 131) dL_spin_124 (by decide) (by decide) ?_
        refine hV.iconst (v := 0) dL_spin_131 (by decide) ?_
        refine hV.iadd dL_spin_132 ?_
        refine hV.iast (j := 8) dL_spin_133 zput_at ⟨by decide, by decide⟩ (by decide) zput_zput ?_
        refine hV.aload_n 2 dL_spin_134 rfl ?_
        refine hV.bipush (v := 10) dL_spin_135 (by decide) ?_
        refine hV.iload_n 0 dL_spin_137 rfl ?_
        refine hV.if_eq_t (tgt := 148) dL_spin_138 (by decide) (by decide) ?_
        refine hV.aload_n 2 dL_spin_148 rfl ?_
        refine hV.bipush (v := 10) dL_spin_149 (by decide) ?_
        refine hV.iald (j := 10) dL_spin_151 zput_at ⟨by decide, by decide⟩ (by decide) ?_
        refine zTop (v := w 10) ((va_ne (by omega)).trans ((va_ne (by omega)).trans (rfl))) ?_
        refine hV.iast (j := 10) dL_spin_152 zput_at ⟨by decide, by decide⟩ (by decide) zput_zput ?_
        exact hE.2.2.2 dL_spin_153 rfl (by decide) (by decide) (zRv (by have e : spL g = spL4 w := (by unfold spL spLm; rw [if_pos c4_1, ← hw]); rw [e]; unfold spL4; rw [if_pos c82_2, if_neg c93_3]; rfl) rfl)
    · refine hV.icmp_ne_t (tgt := 100) dL_spin_82 (by decide) c82_2 ?_
      refine hV.iconst (v := 0) dL_spin_100 (by decide) ?_
      refine hV.istore_n (ls2 := [(2, .int 0), (1, .int 8), (0, .ref q)]) dL_spin_101 (by decide) rfl ?_
      refine hV.aload_n 2 dL_spin_102 rfl ?_
      refine hV.bipush (v := 9) dL_spin_103 (by decide) ?_
      refine hV.iload_n 0 dL_spin_105 rfl ?_
      refine hV.if_eq_t (tgt := 116) dL_spin_106 (by decide) (by decide) ?_
      refine hV.iconst (v := 0) dL_spin_116 (by decide) ?_
      refine hV.iast (j := 9) dL_spin_117 zput_at ⟨by decide, by decide⟩ (by decide) zput_zput ?_
      refine hV.aload_n 2 dL_spin_118 rfl ?_
      refine hV.bipush (v := 8) dL_spin_119 (by decide) ?_
      refine hV.dup2 dL_spin_121 rfl rfl ?_
      refine hV.iald (j := 8) dL_spin_122 zput_at ⟨by decide, by decide⟩ (by decide) ?_
      refine zTop (v := w 8) ((va_ne (by omega)).trans (rfl)) ?_
      refine hV.iload_n 0 dL_spin_123 rfl ?_
      refine hV.if_eq_t (tgt := 131) dL_spin_124 (by decide) (by decide) ?_
      refine hV.iconst (v := 0) dL_spin_131 (by decide) ?_
      refine hV.iadd dL_spin_132 ?_
      refine hV.iast (j := 8) dL_spin_133 zput_at ⟨by decide, by decide⟩ (by decide) zput_zput ?_
      refine hV.aload_n 2 dL_spin_134 rfl ?_
      refine hV.bipush (v := 10) dL_spin_135 (by decide) ?_
      refine hV.iload_n 0 dL_spin_137 rfl ?_
      refine hV.if_eq_t (tgt := 148) dL_spin_138 (by decide) (by decide) ?_
      refine hV.aload_n 2 dL_spin_148 rfl ?_
      refine hV.bipush (v := 10) dL_spin_149 (by decide) ?_
      refine hV.iald (j := 10) dL_spin_151 zput_at ⟨by decide, by decide⟩ (by decide) ?_
      refine zTop (v := w 10) ((va_ne (by omega)).trans ((va_ne (by omega)).trans (rfl))) ?_
      refine hV.iast (j := 10) dL_spin_152 zput_at ⟨by decide, by decide⟩ (by decide) zput_zput ?_
      exact hE.2.2.2 dL_spin_153 rfl (by decide) (by decide) (zRv (by have e : spL g = spL4 w := (by unfold spL spLm; rw [if_pos c4_1, ← hw]); rw [e]; unfold spL4; rw [if_neg c82_2]; rfl) rfl)
  · refine hV.if_le_f (tgt := 11) dL_spin_4 (by decide) c4_1 ?_
    refine hV.iconst (v := 4) dL_spin_7 (by decide) ?_
    refine hV.goto (tgt := 13) dL_spin_8 (by decide) ?_
    refine hV.istore_n (ls2 := [(1, .int 4), (0, .ref q)]) dL_spin_13 (by decide) rfl ?_
    refine hV.aload_n 1 dL_spin_14 rfl ?_
    refine hV.bipush (v := 6) dL_spin_15 (by decide) ?_
    refine hV.dup2 dL_spin_17 rfl rfl ?_
    refine hV.iald (j := 6) dL_spin_18 hg ⟨by decide, by decide⟩ (by decide) ?_
    refine hV.iconst (v := 1) dL_spin_19 (by decide) ?_
    refine hV.isub dL_spin_20 ?_
    refine hV.iast (j := 6) dL_spin_21 hg ⟨by decide, by decide⟩ (by decide) rfl ?_
    refine hV.aload_n 1 dL_spin_22 rfl ?_
    refine hV.bipush (v := 7) dL_spin_23 (by decide) ?_
    refine hV.dup2 dL_spin_25 rfl rfl ?_
    refine hV.iald (j := 7) dL_spin_26 zput_at ⟨by decide, by decide⟩ (by decide) ?_
    refine zTop (v := g 7) ((va_ne (by omega)).trans (rfl)) ?_
    refine hV.iconst (v := 1) dL_spin_27 (by decide) ?_
    refine hV.iadd dL_spin_28 ?_
    refine hV.iast (j := 7) dL_spin_29 zput_at ⟨by decide, by decide⟩ (by decide) zput_zput ?_
    refine hV.aload_n 1 dL_spin_30 rfl ?_
    refine hV.bipush (v := 10) dL_spin_31 (by decide) ?_
    refine hV.aload_n 1 dL_spin_33 rfl ?_
    refine hV.bipush (v := 10) dL_spin_34 (by decide) ?_
    refine hV.iald (j := 10) dL_spin_36 zput_at ⟨by decide, by decide⟩ (by decide) ?_
    refine zTop (v := g 10) ((va_ne (by omega)).trans ((va_ne (by omega)).trans (rfl))) ?_
    refine hV.if_le_f (tgt := 49) dL_spin_37 (by decide) c4_1 ?_
    refine hV.aload_n 1 dL_spin_40 rfl ?_
    refine hV.bipush (v := 10) dL_spin_41 (by decide) ?_
    refine hV.iald (j := 10) dL_spin_43 zput_at ⟨by decide, by decide⟩ (by decide) ?_
    refine zTop (v := g 10) ((va_ne (by omega)).trans ((va_ne (by omega)).trans (rfl))) ?_
    refine hV.iconst (v := 1) dL_spin_44 (by decide) ?_
    refine hV.isub dL_spin_45 ?_
    refine hV.goto (tgt := 50) dL_spin_46 (by decide) ?_
    refine hV.iast (j := 10) dL_spin_50 zput_at ⟨by decide, by decide⟩ (by decide) zput_zput ?_
    refine zHeap (h2 := zput h q (some (.inl (19, .inl (spL2 g))))) (by unfold spL2 spL1; rw [if_neg c4_1]) ?_
    refine hV.bipush (v := 16) dL_spin_51 (by decide) ?_
    refine hV.istore_n (ls2 := [(2, .int 16), (1, .int 4), (0, .ref q)]) dL_spin_53 (by decide) rfl ?_
    refine hV.iload_n 0 dL_spin_54 rfl ?_
    refine hV.bipush (v := 19) dL_spin_55 (by decide) ?_
    refine hV.icmp_ge_f (tgt := 74) dL_spin_57 (by decide) (by decide) ?_
    refine hV.aload_n 2 dL_spin_60 rfl ?_
    refine hV.iload_n 0 dL_spin_61 rfl ?_
    refine hV.aload_n 2 dL_spin_62 rfl ?_
    refine hV.iload_n 1 dL_spin_63 rfl ?_
    refine hV.callS1 (rest := [.int 16, .ref q]) dL_spin_64 (c_L_draw G (g := spL2 g) zput_at (by decide)) my_L_draw ks_L_57 rfl rfl (Nat.le_of_ble_eq_true rfl) (Nat.le_of_ble_eq_true rfl) (Nat.le_of_ble_eq_true rfl) (Nat.le_of_ble_eq_true rfl) (Nat.le_of_ble_eq_true rfl) (st2 := [.int (drLv (spL2 g) 4), .int 16, .ref q]) (k2 := 0) (g2 := 0) rfl rfl rfl ?_
    refine zHeap (h2 := zput h q (some (.inl (19, .inl (drL (spL2 g)))))) zput_zput ?_
    refine hV.iast (j := 16) dL_spin_67 zput_at ⟨by decide, by decide⟩ (by decide) zput_zput ?_
    refine hV.iinc 0 (v := 17) (ls2 := [(2, .int 17), (1, .int 4), (0, .ref q)]) dL_spin_68 rfl (by decide) (by decide) rfl ?_
    refine hV.goto (tgt := 54) dL_spin_71 (by decide) ?_
    refine hV.iload_n 0 dL_spin_54 rfl ?_
    refine hV.bipush (v := 19) dL_spin_55 (by decide) ?_
    refine hV.icmp_ge_f (tgt := 74) dL_spin_57 (by decide) (by decide) ?_
    refine hV.aload_n 2 dL_spin_60 rfl ?_
    refine hV.iload_n 0 dL_spin_61 rfl ?_
    refine hV.aload_n 2 dL_spin_62 rfl ?_
    refine hV.iload_n 1 dL_spin_63 rfl ?_
    refine hV.callS1 (rest := [.int 17, .ref q]) dL_spin_64 (c_L_draw G (g := va_up (drL (spL2 g)) 16 (drLv (spL2 g) 4)) zput_at (by decide)) my_L_draw ks_L_57 rfl rfl (Nat.le_of_ble_eq_true rfl) (Nat.le_of_ble_eq_true rfl) (Nat.le_of_ble_eq_true rfl) (Nat.le_of_ble_eq_true rfl) (Nat.le_of_ble_eq_true rfl) (st2 := [.int (drLv (va_up (drL (spL2 g)) 16 (drLv (spL2 g) 4)) 4), .int 17, .ref q]) (k2 := 0) (g2 := 0) rfl rfl rfl ?_
    refine zHeap (h2 := zput h q (some (.inl (19, .inl (drL (va_up (drL (spL2 g)) 16 (drLv (spL2 g) 4))))))) zput_zput ?_
    refine hV.iast (j := 17) dL_spin_67 zput_at ⟨by decide, by decide⟩ (by decide) zput_zput ?_
    refine hV.iinc 0 (v := 18) (ls2 := [(2, .int 18), (1, .int 4), (0, .ref q)]) dL_spin_68 rfl (by decide) (by decide) rfl ?_
    refine hV.goto (tgt := 54) dL_spin_71 (by decide) ?_
    refine hV.iload_n 0 dL_spin_54 rfl ?_
    refine hV.bipush (v := 19) dL_spin_55 (by decide) ?_
    refine hV.icmp_ge_f (tgt := 74) dL_spin_57 (by decide) (by decide) ?_
    refine hV.aload_n 2 dL_spin_60 rfl ?_
    refine hV.iload_n 0 dL_spin_61 rfl ?_
    refine hV.aload_n 2 dL_spin_62 rfl ?_
    refine hV.iload_n 1 dL_spin_63 rfl ?_
    refine hV.callS1 (rest := [.int 18, .ref q]) dL_spin_64 (c_L_draw G (g := va_up (drL (va_up (drL (spL2 g)) 16 (drLv (spL2 g) 4))) 17 (drLv (va_up (drL (spL2 g)) 16 (drLv (spL2 g) 4)) 4)) zput_at (by decide)) my_L_draw ks_L_57 rfl rfl (Nat.le_of_ble_eq_true rfl) (Nat.le_of_ble_eq_true rfl) (Nat.le_of_ble_eq_true rfl) (Nat.le_of_ble_eq_true rfl) (Nat.le_of_ble_eq_true rfl) (st2 := [.int (drLv (va_up (drL (va_up (drL (spL2 g)) 16 (drLv (spL2 g) 4))) 17 (drLv (va_up (drL (spL2 g)) 16 (drLv (spL2 g) 4)) 4)) 4), .int 18, .ref q]) (k2 := 0) (g2 := 0) rfl rfl rfl ?_
    refine zHeap (h2 := zput h q (some (.inl (19, .inl (drL (va_up (drL (va_up (drL (spL2 g)) 16 (drLv (spL2 g) 4))) 17 (drLv (va_up (drL (spL2 g)) 16 (drLv (spL2 g) 4)) 4))))))) zput_zput ?_
    refine hV.iast (j := 18) dL_spin_67 zput_at ⟨by decide, by decide⟩ (by decide) zput_zput ?_
    refine hV.iinc 0 (v := 19) (ls2 := [(2, .int 19), (1, .int 4), (0, .ref q)]) dL_spin_68 rfl (by decide) (by decide) rfl ?_
    refine hV.goto (tgt := 54) dL_spin_71 (by decide) ?_
    refine hV.iload_n 0 dL_spin_54 rfl ?_
    refine hV.bipush (v := 19) dL_spin_55 (by decide) ?_
    refine hV.icmp_ge_t (tgt := 74) dL_spin_57 (by decide) (by decide) ?_
    refine zHeap (h2 := zput h q (some (.inl (19, .inl (spL3 (spL2 g) 4))))) rfl ?_
    obtain ⟨w, hw⟩ : ∃ w : Nat → Int32, w = spL3 (spL2 g) 4 := ⟨_, rfl⟩
    rw [← hw]
    refine hV.aload_n 2 dL_spin_74 rfl ?_
    refine hV.bipush (v := 16) dL_spin_75 (by decide) ?_
    refine hV.iald (j := 16) dL_spin_77 zput_at ⟨by decide, by decide⟩ (by decide) ?_
    refine hV.aload_n 2 dL_spin_78 rfl ?_
    refine hV.bipush (v := 17) dL_spin_79 (by decide) ?_
    refine hV.iald (j := 17) dL_spin_81 zput_at ⟨by decide, by decide⟩ (by decide) ?_
    by_cases c82_4 : (w 16) = (w 17)
    · refine hV.icmp_ne_f (tgt := 100) dL_spin_82 (by decide) c82_4 ?_
      refine hV.aload_n 2 dL_spin_85 rfl ?_
      refine hV.bipush (v := 17) dL_spin_86 (by decide) ?_
      refine hV.iald (j := 17) dL_spin_88 zput_at ⟨by decide, by decide⟩ (by decide) ?_
      refine hV.aload_n 2 dL_spin_89 rfl ?_
      refine hV.bipush (v := 18) dL_spin_90 (by decide) ?_
      refine hV.iald (j := 18) dL_spin_92 zput_at ⟨by decide, by decide⟩ (by decide) ?_
      by_cases c93_5 : (w 17) = (w 18)
      · refine hV.icmp_ne_f (tgt := 100) dL_spin_93 (by decide) c93_5 ?_
        refine hV.iconst (v := 1) dL_spin_96 (by decide) ?_
        refine hV.goto (tgt := 101) dL_spin_97 (by decide) ?_
        refine hV.istore_n (ls2 := [(2, .int 1), (1, .int 4), (0, .ref q)]) dL_spin_101 (by decide) rfl ?_
        refine hV.aload_n 2 dL_spin_102 rfl ?_
        refine hV.bipush (v := 9) dL_spin_103 (by decide) ?_
        refine hV.iload_n 0 dL_spin_105 rfl ?_
        refine hV.if_eq_f (tgt := 116) dL_spin_106 (by decide) (by decide) ?_
        refine hV.aload_n 2 dL_spin_109 rfl ?_
        refine hV.bipush (v := 14) dL_spin_110 (by decide) ?_
        refine hV.iald (j := 14) dL_spin_112 zput_at ⟨by decide, by decide⟩ (by decide) ?_
        refine hV.goto (tgt := 117) dL_spin_113 (by decide) ?_
        refine hV.iast (j := 9) dL_spin_117 zput_at ⟨by decide, by decide⟩ (by decide) zput_zput ?_
        refine hV.aload_n 2 dL_spin_118 rfl ?_
        refine hV.bipush (v := 8) dL_spin_119 (by decide) ?_
        refine hV.dup2 dL_spin_121 rfl rfl ?_
        refine hV.iald (j := 8) dL_spin_122 zput_at ⟨by decide, by decide⟩ (by decide) ?_
        refine zTop (v := w 8) ((va_ne (by omega)).trans (rfl)) ?_
        refine hV.iload_n 0 dL_spin_123 rfl ?_
        refine hV.if_eq_f (tgt := 131) dL_spin_124 (by decide) (by decide) ?_
        refine hV.iconst (v := 1) dL_spin_127 (by decide) ?_
        refine hV.goto (tgt := 132) dL_spin_128 (by decide) ?_
        refine hV.iadd dL_spin_132 ?_
        refine hV.iast (j := 8) dL_spin_133 zput_at ⟨by decide, by decide⟩ (by decide) zput_zput ?_
        refine hV.aload_n 2 dL_spin_134 rfl ?_
        refine hV.bipush (v := 10) dL_spin_135 (by decide) ?_
        refine hV.iload_n 0 dL_spin_137 rfl ?_
        refine hV.if_eq_f (tgt := 148) dL_spin_138 (by decide) (by decide) ?_
        refine hV.aload_n 2 dL_spin_141 rfl ?_
        refine hV.bipush (v := 15) dL_spin_142 (by decide) ?_
        refine hV.iald (j := 15) dL_spin_144 zput_at ⟨by decide, by decide⟩ (by decide) ?_
        refine zTop (v := w 15) ((va_ne (by omega)).trans ((va_ne (by omega)).trans (rfl))) ?_
        refine hV.goto (tgt := 152) dL_spin_145 (by decide) ?_
        refine hV.iast (j := 10) dL_spin_152 zput_at ⟨by decide, by decide⟩ (by decide) zput_zput ?_
        exact hE.2.2.2 dL_spin_153 rfl (by decide) (by decide) (zRv (by have e : spL g = spL4 w := (by unfold spL spLm; rw [if_neg c4_1, ← hw]); rw [e]; unfold spL4; rw [if_pos c82_4, if_pos c93_5]; rfl) rfl)
      · refine hV.icmp_ne_t (tgt := 100) dL_spin_93 (by decide) c93_5 ?_
        refine hV.iconst (v := 0) dL_spin_100 (by decide) ?_
        refine hV.istore_n (ls2 := [(2, .int 0), (1, .int 4), (0, .ref q)]) dL_spin_101 (by decide) rfl ?_
        refine hV.aload_n 2 dL_spin_102 rfl ?_
        refine hV.bipush (v := 9) dL_spin_103 (by decide) ?_
        refine hV.iload_n 0 dL_spin_105 rfl ?_
        refine hV.if_eq_t (tgt := 116) dL_spin_106 (by decide) (by decide) ?_
        refine hV.iconst (v := 0) dL_spin_116 (by decide) ?_
        refine hV.iast (j := 9) dL_spin_117 zput_at ⟨by decide, by decide⟩ (by decide) zput_zput ?_
        refine hV.aload_n 2 dL_spin_118 rfl ?_
        refine hV.bipush (v := 8) dL_spin_119 (by decide) ?_
        refine hV.dup2 dL_spin_121 rfl rfl ?_
        refine hV.iald (j := 8) dL_spin_122 zput_at ⟨by decide, by decide⟩ (by decide) ?_
        refine zTop (v := w 8) ((va_ne (by omega)).trans (rfl)) ?_
        refine hV.iload_n 0 dL_spin_123 rfl ?_
        refine hV.if_eq_t (tgt := 131) dL_spin_124 (by decide) (by decide) ?_
        refine hV.iconst (v := 0) dL_spin_131 (by decide) ?_
        refine hV.iadd dL_spin_132 ?_
        refine hV.iast (j := 8) dL_spin_133 zput_at ⟨by decide, by decide⟩ (by decide) zput_zput ?_
        refine hV.aload_n 2 dL_spin_134 rfl ?_
        refine hV.bipush (v := 10) dL_spin_135 (by decide) ?_
        refine hV.iload_n 0 dL_spin_137 rfl ?_
        refine hV.if_eq_t (tgt := 148) dL_spin_138 (by decide) (by decide) ?_
        refine hV.aload_n 2 dL_spin_148 rfl ?_
        refine hV.bipush (v := 10) dL_spin_149 (by decide) ?_
        refine hV.iald (j := 10) dL_spin_151 zput_at ⟨by decide, by decide⟩ (by decide) ?_
        refine zTop (v := w 10) ((va_ne (by omega)).trans ((va_ne (by omega)).trans (rfl))) ?_
        refine hV.iast (j := 10) dL_spin_152 zput_at ⟨by decide, by decide⟩ (by decide) zput_zput ?_
        exact hE.2.2.2 dL_spin_153 rfl (by decide) (by decide) (zRv (by have e : spL g = spL4 w := (by unfold spL spLm; rw [if_neg c4_1, ← hw]); rw [e]; unfold spL4; rw [if_pos c82_4, if_neg c93_5]; rfl) rfl)
    · refine hV.icmp_ne_t (tgt := 100) dL_spin_82 (by decide) c82_4 ?_
      refine hV.iconst (v := 0) dL_spin_100 (by decide) ?_
      refine hV.istore_n (ls2 := [(2, .int 0), (1, .int 4), (0, .ref q)]) dL_spin_101 (by decide) rfl ?_
      refine hV.aload_n 2 dL_spin_102 rfl ?_
      refine hV.bipush (v := 9) dL_spin_103 (by decide) ?_
      refine hV.iload_n 0 dL_spin_105 rfl ?_
      refine hV.if_eq_t (tgt := 116) dL_spin_106 (by decide) (by decide) ?_
      refine hV.iconst (v := 0) dL_spin_116 (by decide) ?_
      refine hV.iast (j := 9) dL_spin_117 zput_at ⟨by decide, by decide⟩ (by decide) zput_zput ?_
      refine hV.aload_n 2 dL_spin_118 rfl ?_
      refine hV.bipush (v := 8) dL_spin_119 (by decide) ?_
      refine hV.dup2 dL_spin_121 rfl rfl ?_
      refine hV.iald (j := 8) dL_spin_122 zput_at ⟨by decide, by decide⟩ (by decide) ?_
      refine zTop (v := w 8) ((va_ne (by omega)).trans (rfl)) ?_
      refine hV.iload_n 0 dL_spin_123 rfl ?_
      refine hV.if_eq_t (tgt := 131) dL_spin_124 (by decide) (by decide) ?_
      refine hV.iconst (v := 0) dL_spin_131 (by decide) ?_
      refine hV.iadd dL_spin_132 ?_
      refine hV.iast (j := 8) dL_spin_133 zput_at ⟨by decide, by decide⟩ (by decide) zput_zput ?_
      refine hV.aload_n 2 dL_spin_134 rfl ?_
      refine hV.bipush (v := 10) dL_spin_135 (by decide) ?_
      refine hV.iload_n 0 dL_spin_137 rfl ?_
      refine hV.if_eq_t (tgt := 148) dL_spin_138 (by decide) (by decide) ?_
      refine hV.aload_n 2 dL_spin_148 rfl ?_
      refine hV.bipush (v := 10) dL_spin_149 (by decide) ?_
      refine hV.iald (j := 10) dL_spin_151 zput_at ⟨by decide, by decide⟩ (by decide) ?_
      refine zTop (v := w 10) ((va_ne (by omega)).trans ((va_ne (by omega)).trans (rfl))) ?_
      refine hV.iast (j := 10) dL_spin_152 zput_at ⟨by decide, by decide⟩ (by decide) zput_zput ?_
      exact hE.2.2.2 dL_spin_153 rfl (by decide) (by decide) (zRv (by have e : spL g = spL4 w := (by unfold spL spLm; rw [if_neg c4_1, ← hw]); rw [e]; unfold spL4; rw [if_neg c82_4]; rfl) rfl)

set_option maxRecDepth 100000 in
set_option maxHeartbeats 1000000 in
theorem c_L_isOpen {l : Launch} {D : va_G} {base : Nat} (G : l.stackTraces = false) {h : zH} {n : Nat} {qg qk : Nat} {g k : Nat → Int32} {p : Nat} (hg : h qg = some (.inl (19, .inl g))) (hk : h qk = some (.inl (35, .inl k))) (hp : p < 7) :
    zCt l D base 1 yL_isOpen w_L_isOpen [.int (nI p), .ref qg, .ref qk] (h) n 0 0 (zR (some (.int (opL g k p))) (h) (n)) := by
  refine zCt.of G (by decide) (Nat.le_of_ble_eq_true rfl) (fun Sx V X hV hE hX => ?_)
  show V 0 [(0, .int (nI p)), (1, .ref qg), (2, .ref qk)] [] (h) n 0 0
  refine hV.aload_n 2 dL_isOpen_0 rfl ?_
  refine hV.iconst (v := 5) dL_isOpen_1 (by decide) ?_
  refine hV.iload_n 0 dL_isOpen_2 rfl ?_
  refine hV.imulN (a := 5) (b := p) dL_isOpen_3 ?_
  refine hV.iald (j := 5 * p) dL_isOpen_4 hk (zix_nI (by omega)) (by omega) ?_
  by_cases c5_1 : (k (5 * p)) = 0
  · refine hV.if_eq_t (tgt := 44) dL_isOpen_5 (by decide) c5_1 ?_
    refine hV.iconst (v := 1) dL_isOpen_44 (by decide) ?_
    refine hV.goto (tgt := 49) dL_isOpen_45 (by decide) ?_
    exact hE.1 dL_isOpen_49 rfl rfl (by decide) (by decide) (zRi (by unfold opL; rw [if_pos c5_1]) rfl rfl)
  · refine hV.if_eq_f (tgt := 44) dL_isOpen_5 (by decide) c5_1 ?_
    refine hV.aload_n 2 dL_isOpen_8 rfl ?_
    refine hV.iconst (v := 5) dL_isOpen_9 (by decide) ?_
    refine hV.iload_n 0 dL_isOpen_10 rfl ?_
    refine hV.imulN (a := 5) (b := p) dL_isOpen_11 ?_
    refine hV.iald (j := 5 * p) dL_isOpen_12 hk (zix_nI (by omega)) (by omega) ?_
    refine hV.iconst (v := 1) dL_isOpen_13 (by decide) ?_
    by_cases c14_2 : (k (5 * p)) = 1
    · refine hV.icmp_ne_f (tgt := 24) dL_isOpen_14 (by decide) c14_2 ?_
      refine hV.aload_n 1 dL_isOpen_17 rfl ?_
      refine hV.bipush (v := 9) dL_isOpen_18 (by decide) ?_
      refine hV.iald (j := 9) dL_isOpen_20 hg ⟨by decide, by decide⟩ (by decide) ?_
      by_cases c21_3 : 0 < (g 9)
      · refine hV.if_gt_t (tgt := 44) dL_isOpen_21 (by decide) c21_3 ?_
        refine hV.iconst (v := 1) dL_isOpen_44 (by decide) ?_
        refine hV.goto (tgt := 49) dL_isOpen_45 (by decide) ?_
        exact hE.1 dL_isOpen_49 rfl rfl (by decide) (by decide) (zRi (by unfold opL; rw [if_neg c5_1, if_pos c14_2, if_pos c21_3]) rfl rfl)
      · refine hV.if_gt_f (tgt := 44) dL_isOpen_21 (by decide) c21_3 ?_
        refine hV.aload_n 2 dL_isOpen_24 rfl ?_
        refine hV.iconst (v := 5) dL_isOpen_25 (by decide) ?_
        refine hV.iload_n 0 dL_isOpen_26 rfl ?_
        refine hV.imulN (a := 5) (b := p) dL_isOpen_27 ?_
        refine hV.iald (j := 5 * p) dL_isOpen_28 hk (zix_nI (by omega)) (by omega) ?_
        refine hV.iconst (v := 2) dL_isOpen_29 (by decide) ?_
        by_cases c30_4 : (k (5 * p)) = 2
        · refine hV.icmp_ne_f (tgt := 48) dL_isOpen_30 (by decide) c30_4 ?_
          refine hV.aload_n 2 dL_isOpen_33 rfl ?_
          refine hV.iconst (v := 5) dL_isOpen_34 (by decide) ?_
          refine hV.iload_n 0 dL_isOpen_35 rfl ?_
          refine hV.imulN (a := 5) (b := p) dL_isOpen_36 ?_
          refine hV.iconst (v := 2) dL_isOpen_37 (by decide) ?_
          refine hV.iaddN (a := 5 * p) (b := 2) dL_isOpen_38 ?_
          refine hV.iald (j := (5 * p) + 2) dL_isOpen_39 hk (zix_nI (by omega)) (by omega) ?_
          refine hV.iconst (v := 1) dL_isOpen_40 (by decide) ?_
          by_cases c41_5 : (k ((5 * p) + 2)) = 1
          · refine hV.icmp_ne_f (tgt := 48) dL_isOpen_41 (by decide) c41_5 ?_
            refine hV.iconst (v := 1) dL_isOpen_44 (by decide) ?_
            refine hV.goto (tgt := 49) dL_isOpen_45 (by decide) ?_
            exact hE.1 dL_isOpen_49 rfl rfl (by decide) (by decide) (zRi (by unfold opL; rw [if_neg c5_1, if_pos c14_2, if_neg c21_3]; unfold opT; rw [if_pos c30_4, if_pos c41_5]) rfl rfl)
          · refine hV.icmp_ne_t (tgt := 48) dL_isOpen_41 (by decide) c41_5 ?_
            refine hV.iconst (v := 0) dL_isOpen_48 (by decide) ?_
            exact hE.1 dL_isOpen_49 rfl rfl (by decide) (by decide) (zRi (by unfold opL; rw [if_neg c5_1, if_pos c14_2, if_neg c21_3]; unfold opT; rw [if_pos c30_4, if_neg c41_5]) rfl rfl)
        · refine hV.icmp_ne_t (tgt := 48) dL_isOpen_30 (by decide) c30_4 ?_
          refine hV.iconst (v := 0) dL_isOpen_48 (by decide) ?_
          exact hE.1 dL_isOpen_49 rfl rfl (by decide) (by decide) (zRi (by unfold opL; rw [if_neg c5_1, if_pos c14_2, if_neg c21_3]; unfold opT; rw [if_neg c30_4]) rfl rfl)
    · refine hV.icmp_ne_t (tgt := 24) dL_isOpen_14 (by decide) c14_2 ?_
      refine hV.aload_n 2 dL_isOpen_24 rfl ?_
      refine hV.iconst (v := 5) dL_isOpen_25 (by decide) ?_
      refine hV.iload_n 0 dL_isOpen_26 rfl ?_
      refine hV.imulN (a := 5) (b := p) dL_isOpen_27 ?_
      refine hV.iald (j := 5 * p) dL_isOpen_28 hk (zix_nI (by omega)) (by omega) ?_
      refine hV.iconst (v := 2) dL_isOpen_29 (by decide) ?_
      by_cases c30_6 : (k (5 * p)) = 2
      · refine hV.icmp_ne_f (tgt := 48) dL_isOpen_30 (by decide) c30_6 ?_
        refine hV.aload_n 2 dL_isOpen_33 rfl ?_
        refine hV.iconst (v := 5) dL_isOpen_34 (by decide) ?_
        refine hV.iload_n 0 dL_isOpen_35 rfl ?_
        refine hV.imulN (a := 5) (b := p) dL_isOpen_36 ?_
        refine hV.iconst (v := 2) dL_isOpen_37 (by decide) ?_
        refine hV.iaddN (a := 5 * p) (b := 2) dL_isOpen_38 ?_
        refine hV.iald (j := (5 * p) + 2) dL_isOpen_39 hk (zix_nI (by omega)) (by omega) ?_
        refine hV.iconst (v := 1) dL_isOpen_40 (by decide) ?_
        by_cases c41_7 : (k ((5 * p) + 2)) = 1
        · refine hV.icmp_ne_f (tgt := 48) dL_isOpen_41 (by decide) c41_7 ?_
          refine hV.iconst (v := 1) dL_isOpen_44 (by decide) ?_
          refine hV.goto (tgt := 49) dL_isOpen_45 (by decide) ?_
          exact hE.1 dL_isOpen_49 rfl rfl (by decide) (by decide) (zRi (by unfold opL; rw [if_neg c5_1, if_neg c14_2]; unfold opT; rw [if_pos c30_6, if_pos c41_7]) rfl rfl)
        · refine hV.icmp_ne_t (tgt := 48) dL_isOpen_41 (by decide) c41_7 ?_
          refine hV.iconst (v := 0) dL_isOpen_48 (by decide) ?_
          exact hE.1 dL_isOpen_49 rfl rfl (by decide) (by decide) (zRi (by unfold opL; rw [if_neg c5_1, if_neg c14_2]; unfold opT; rw [if_pos c30_6, if_neg c41_7]) rfl rfl)
      · refine hV.icmp_ne_t (tgt := 48) dL_isOpen_30 (by decide) c30_6 ?_
        refine hV.iconst (v := 0) dL_isOpen_48 (by decide) ?_
        exact hE.1 dL_isOpen_49 rfl rfl (by decide) (by decide) (zRi (by unfold opL; rw [if_neg c5_1, if_neg c14_2]; unfold opT; rw [if_neg c30_6]) rfl rfl)

set_option maxRecDepth 100000 in
set_option maxHeartbeats 1000000 in
theorem c_L_launched {l : Launch} {D : va_G} {base : Nat} (G : l.stackTraces = false) {h : zH} {n : Nat} {qg qp qk qt : Nat} {g pins k t : Nat → Int32} {c : Nat} (hc : c < 7) (hg : h qg = some (.inl (19, .inl g))) (hp : h qp = some (.inl (56, .inl pins))) (hk : h qk = some (.inl (35, .inl k))) (ht : h qt = some (.inl (8, .inl t))) (hd : qg ≠ qp ∧ qg ≠ qk ∧ qg ≠ qt ∧ qp ≠ qk ∧ qp ≠ qt ∧ qk ≠ qt) (hpin : ∀ i, i < 56 → pins i = 0 ∨ pins i = 1 ∨ pins i = -1) :
    zCt l D base 3 yL_launched w_L_launched [.int (nI c), .ref qg, .ref qp, .ref qk, .ref qt] (h) n 0 0 (zR (some (.int (lV pins g k t c))) (zput (zput (zput h qg (some (.inl (19, .inl (lG pins g k t c))))) qk (some (.inl (35, .inl (lK pins g k t c))))) qt (some (.inl (8, .inl (lT pins g t c))))) (n)) := by
  refine zCt.of G (by decide) (Nat.le_of_ble_eq_true rfl) (fun Sx V X hV hE hX => ?_)
  show V 0 [(0, .int (nI c)), (1, .ref qg), (2, .ref qp), (3, .ref qk), (4, .ref qt)] [] (h) n 0 0
  refine zHeap (h2 := zput (zput (zput h qg (some (.inl (19, .inl g)))) qk (some (.inl (35, .inl k)))) qt (some (.inl (8, .inl t)))) (by rw [zput_self hg, zput_self hk, zput_self ht]) ?_
  refine hV.aload_n 1 dL_launched_0 rfl ?_
  refine hV.iconst (v := 0) dL_launched_1 (by decide) ?_
  refine hV.dup2 dL_launched_2 rfl rfl ?_
  refine hV.iald (j := 0) dL_launched_3 ((zput_ne (by omega)).trans ((zput_ne (by omega)).trans zput_at)) ⟨by decide, by decide⟩ (by decide) ?_
  refine hV.iconst (v := 1) dL_launched_4 (by decide) ?_
  refine hV.isub dL_launched_5 ?_
  refine hV.iast (j := 0) dL_launched_6 ((zput_ne (by omega)).trans ((zput_ne (by omega)).trans zput_at)) ⟨by decide, by decide⟩ (by decide) ((zput_sw (by omega)).trans (congrArg (fun z => zput z _ _) ((zput_sw (by omega)).trans (congrArg (fun z => zput z _ _) zput_zput)))) ?_
  refine hV.aload_n 1 dL_launched_7 rfl ?_
  refine hV.iconst (v := 2) dL_launched_8 (by decide) ?_
  refine hV.dup2 dL_launched_9 rfl rfl ?_
  refine hV.iald (j := 2) dL_launched_10 ((zput_ne (by omega)).trans ((zput_ne (by omega)).trans zput_at)) ⟨by decide, by decide⟩ (by decide) ?_
  refine zTop (v := g 2) ((va_ne (by omega)).trans (rfl)) ?_
  refine hV.iconst (v := 1) dL_launched_11 (by decide) ?_
  refine hV.iadd dL_launched_12 ?_
  refine hV.iast (j := 2) dL_launched_13 ((zput_ne (by omega)).trans ((zput_ne (by omega)).trans zput_at)) ⟨by decide, by decide⟩ (by decide) ((zput_sw (by omega)).trans (congrArg (fun z => zput z _ _) ((zput_sw (by omega)).trans (congrArg (fun z => zput z _ _) zput_zput)))) ?_
  refine zHeap (h2 := zput (zput (zput h qg (some (.inl (19, .inl (lcL1 g))))) qk (some (.inl (35, .inl k)))) qt (some (.inl (8, .inl t)))) rfl ?_
  have j32 : V 32 [(0, .int (nI c)), (1, .ref qg), (2, .ref qp), (3, .ref qk), (4, .ref qt)] [] (zput (zput (zput h qg (some (.inl (19, .inl (lcL2 (lcL1 g)))))) qk (some (.inl (35, .inl k)))) qt (some (.inl (8, .inl t)))) n 0 0 → V 14 [(0, .int (nI c)), (1, .ref qg), (2, .ref qp), (3, .ref qk), (4, .ref qt)] [] (zput (zput (zput h qg (some (.inl (19, .inl (lcL1 g))))) qk (some (.inl (35, .inl k)))) qt (some (.inl (8, .inl t)))) n 0 0 := by
    intro q
    refine hV.aload_n 1 dL_launched_14 rfl ?_
    refine hV.bipush (v := 6) dL_launched_15 (by decide) ?_
    refine hV.iald (j := 6) dL_launched_17 ((zput_ne (by omega)).trans ((zput_ne (by omega)).trans zput_at)) ⟨by decide, by decide⟩ (by decide) ?_
    by_cases c18_1 : ((lcL1 g) 6) ≤ 0
    · refine hV.if_le_t (tgt := 32) dL_launched_18 (by decide) c18_1 ?_
      have e9 : lcL2 (lcL1 g) = lcL1 g := by unfold lcL2; rw [if_pos c18_1]
      rw [e9] at q
      exact q
    · refine hV.if_le_f (tgt := 32) dL_launched_18 (by decide) c18_1 ?_
      refine hV.aload_n 1 dL_launched_21 rfl ?_
      refine hV.bipush (v := 9) dL_launched_22 (by decide) ?_
      refine hV.iald (j := 9) dL_launched_24 ((zput_ne (by omega)).trans ((zput_ne (by omega)).trans zput_at)) ⟨by decide, by decide⟩ (by decide) ?_
      by_cases c25_2 : ((lcL1 g) 9) = 0
      · refine hV.if_ne_f (tgt := 32) dL_launched_25 (by decide) c25_2 ?_
        refine hV.aload_n 1 dL_launched_28 rfl ?_
        refine hV.callS1 (rest := []) dL_launched_29 (c_L_spin G (g := lcL1 g) ((zput_ne (by omega)).trans ((zput_ne (by omega)).trans zput_at))) my_L_spin ks_L_63 rfl rfl (Nat.le_of_ble_eq_true rfl) (Nat.le_of_ble_eq_true rfl) (Nat.le_of_ble_eq_true rfl) (Nat.le_of_ble_eq_true rfl) (Nat.le_of_ble_eq_true rfl) (st2 := []) (k2 := 0) (g2 := 0) rfl rfl rfl ?_
        refine zHeap (h2 := zput (zput (zput h qg (some (.inl (19, .inl (spL (lcL1 g)))))) qk (some (.inl (35, .inl k)))) qt (some (.inl (8, .inl t)))) ((zput_sw (by omega)).trans (congrArg (fun z => zput z _ _) ((zput_sw (by omega)).trans (congrArg (fun z => zput z _ _) zput_zput)))) ?_
        have e9 : lcL2 (lcL1 g) = spL (lcL1 g) := by unfold lcL2; rw [if_neg c18_1, if_pos c25_2]
        rw [e9] at q
        exact q
      · refine hV.if_ne_t (tgt := 32) dL_launched_25 (by decide) c25_2 ?_
        have e9 : lcL2 (lcL1 g) = lcL1 g := by unfold lcL2; rw [if_neg c18_1, if_neg c25_2]
        rw [e9] at q
        exact q
  refine j32 ?_
  obtain ⟨g2, hg2⟩ : ∃ z : Nat → Int32, z = lcL2 (lcL1 g) := ⟨_, rfl⟩
  rw [← hg2]
  have hbn : ∀ (c9 : Nat) (s9 : Int32) (H9 : zH) (j9 : Nat), c9 < 7 → (s9 = 1 ∨ s9 = -1) → V 120 [(5, .int (nI (bnc c9 s9))), (7, .int s9), (6, .int (nI j9)), (0, .int (nI c)), (1, .ref qg), (2, .ref qp), (3, .ref qk), (4, .ref qt)] [] (H9) n 0 0 → V 90 [(7, .int s9), (5, .int (nI c9)), (6, .int (nI j9)), (0, .int (nI c)), (1, .ref qg), (2, .ref qp), (3, .ref qk), (4, .ref qt)] [] (H9) n 0 0 := by
    intro c9 s9 H9 j9 hc9 hs9 q
    rcases hs9 with rfl | rfl
    · skip
      refine hV.iload 1 dL_launched_90 rfl ?_
      refine hV.iload 0 dL_launched_92 rfl ?_
      refine hV.iaddN (a := c9) (b := 1) dL_launched_94 ?_
      refine hV.if_lt_f (tgt := 108) dL_launched_95 (by decide) (fun q => absurd ((nI_ltI (a := c9 + 1) (b := 0) (by omega) (by omega)).mp q) (by omega)) ?_
      refine hV.iload 1 dL_launched_98 rfl ?_
      refine hV.iload 0 dL_launched_100 rfl ?_
      refine hV.iaddN (a := c9) (b := 1) dL_launched_102 ?_
      refine hV.bipush (v := 6) dL_launched_103 (by decide) ?_
      by_cases c105_3 : c9 + 1 ≤ 6
      · refine hV.icmp_le_t (tgt := 113) dL_launched_105 (by decide) ((nI_leI (a := c9 + 1) (b := 6) (by omega) (by omega)).mpr c105_3) ?_
        refine hV.iload 1 dL_launched_113 rfl ?_
        refine hV.iload 0 dL_launched_115 rfl ?_
        refine hV.iaddN (a := c9) (b := 1) dL_launched_117 ?_
        refine hV.istore (ls2 := [(5, .int (nI (c9 + 1))), (7, .int 1), (6, .int (nI j9)), (0, .int (nI c)), (1, .ref qg), (2, .ref qp), (3, .ref qk), (4, .ref qt)]) dL_launched_118 (by decide) rfl ?_
        exact (by have e9 : bnc c9 1 = c9 + 1 := (by unfold bnc; rw [if_pos rfl, if_pos (by omega)]); rw [e9] at q; exact q)
      · refine hV.icmp_le_f (tgt := 113) dL_launched_105 (by decide) (fun q => absurd ((nI_leI (a := c9 + 1) (b := 6) (by omega) (by omega)).mp q) c105_3) ?_
        refine hV.iload 1 dL_launched_108 rfl ?_
        refine hV.goto (tgt := 118) dL_launched_110 (by decide) ?_
        refine hV.istore (ls2 := [(5, .int (nI c9)), (7, .int 1), (6, .int (nI j9)), (0, .int (nI c)), (1, .ref qg), (2, .ref qp), (3, .ref qk), (4, .ref qt)]) dL_launched_118 (by decide) rfl ?_
        exact (by have e9 : bnc c9 1 = c9 := (by unfold bnc; rw [if_pos rfl, if_neg (by omega)]); rw [e9] at q; exact q)
    · cases c9 with
      | zero =>
        show V 90 [(7, .int (-1)), (5, .int 0), (6, .int (nI j9)), (0, .int (nI c)), (1, .ref qg), (2, .ref qp), (3, .ref qk), (4, .ref qt)] [] (H9) n 0 0
        refine hV.iload 1 dL_launched_90 rfl ?_
        refine hV.iload 0 dL_launched_92 rfl ?_
        refine hV.iadd dL_launched_94 ?_
        refine zTop (v := (-1)) (by decide) ?_
        refine hV.if_lt_t (tgt := 108) dL_launched_95 (by decide) (by decide) ?_
        refine hV.iload 1 dL_launched_108 rfl ?_
        refine hV.goto (tgt := 118) dL_launched_110 (by decide) ?_
        refine hV.istore (ls2 := [(5, .int 0), (7, .int (-1)), (6, .int (nI j9)), (0, .int (nI c)), (1, .ref qg), (2, .ref qp), (3, .ref qk), (4, .ref qt)]) dL_launched_118 (by decide) rfl ?_
        exact (q)
      | succ c9 =>
        refine hV.iload 1 dL_launched_90 rfl ?_
        refine hV.iload 0 dL_launched_92 rfl ?_
        refine hV.iadd dL_launched_94 ?_
        refine zTop (v := nI c9) (zI_m1 c9) ?_
        refine hV.if_lt_f (tgt := 108) dL_launched_95 (by decide) (fun q => absurd ((nI_ltI (a := c9) (b := 0) (by omega) (by omega)).mp q) (by omega)) ?_
        refine hV.iload 1 dL_launched_98 rfl ?_
        refine hV.iload 0 dL_launched_100 rfl ?_
        refine hV.iadd dL_launched_102 ?_
        refine zTop (v := nI c9) (zI_m1 c9) ?_
        refine hV.bipush (v := 6) dL_launched_103 (by decide) ?_
        refine hV.icmp_le_t (tgt := 113) dL_launched_105 (by decide) ((nI_leI (a := c9) (b := 6) (by omega) (by omega)).mpr (by omega)) ?_
        refine hV.iload 1 dL_launched_113 rfl ?_
        refine hV.iload 0 dL_launched_115 rfl ?_
        refine hV.iadd dL_launched_117 ?_
        refine zTop (v := nI c9) (zI_m1 c9) ?_
        refine hV.istore (ls2 := [(5, .int (nI c9)), (7, .int (-1)), (6, .int (nI j9)), (0, .int (nI c)), (1, .ref qg), (2, .ref qp), (3, .ref qk), (4, .ref qt)]) dL_launched_118 (by decide) rfl ?_
        exact (q)
  refine hV.iload_n 0 dL_launched_32 rfl ?_
  refine hV.istore (ls2 := [(5, .int (nI c)), (0, .int (nI c)), (1, .ref qg), (2, .ref qp), (3, .ref qk), (4, .ref qt)]) dL_launched_33 (by decide) rfl ?_
  refine hV.iconst (v := 0) dL_launched_35 (by decide) ?_
  refine hV.istore (ls2 := [(6, .int 0), (5, .int (nI c)), (0, .int (nI c)), (1, .ref qg), (2, .ref qp), (3, .ref qk), (4, .ref qt)]) dL_launched_36 (by decide) rfl ?_
  have loop : ∀ (k9 j : Nat) (g3 t3 : Nat → Int32) (c2 : Nat), j + k9 = 8 → (((g3, t3), c2) = falL pins g2 t c j) → (c2 < 7) → V 38 [(6, .int (nI j)), (5, .int (nI c2)), (0, .int (nI c)), (1, .ref qg), (2, .ref qp), (3, .ref qk), (4, .ref qt)] [] (zput (zput (zput h qg (some (.inl (19, .inl g3)))) qk (some (.inl (35, .inl k)))) qt (some (.inl (8, .inl t3)))) n 0 0 := by
    intro k9
    induction k9 with
    | zero =>
      intro j g3 t3 c2 hj he hc2
      refine hV.iload 0 dL_launched_38 rfl ?_
      refine hV.bipush (v := 8) dL_launched_40 (by decide) ?_
      refine hV.icmp_ge_t (tgt := 126) dL_launched_42 (by decide) ((nI_leI (a := 8) (b := j) (by omega) (by omega)).mpr (by omega)) ?_
      have e8 : j = 8 := by omega
      subst e8
      refine hV.pick [1, 3, 5] (ls2 := [(5, .int (nI c2)), (1, .ref qg), (3, .ref qk)]) rfl ?_
      refine hV.iload 0 dL_launched_126 rfl ?_
      refine hV.aload_n 1 dL_launched_128 rfl ?_
      refine hV.aload_n 2 dL_launched_129 rfl ?_
      refine hV.callS1 (rest := []) dL_launched_130 (c_L_isOpen G (g := g3) (k := k) (p := c2) ((zput_ne (by omega)).trans ((zput_ne (by omega)).trans zput_at)) ((zput_ne (by omega)).trans zput_at) (by omega)) my_L_isOpen ks_L_67 rfl rfl (Nat.le_of_ble_eq_true rfl) (Nat.le_of_ble_eq_true rfl) (Nat.le_of_ble_eq_true rfl) (Nat.le_of_ble_eq_true rfl) (Nat.le_of_ble_eq_true rfl) (st2 := [.int (opL g3 k c2)]) (k2 := 0) (g2 := 0) rfl rfl rfl ?_
      refine hV.istore (ls2 := [(6, .int (opL g3 k c2)), (5, .int (nI c2)), (1, .ref qg), (3, .ref qk)]) dL_launched_133 (by decide) rfl ?_
      obtain ⟨o, ho⟩ : ∃ z : Int32, z = opL g3 k c2 := ⟨_, rfl⟩
      rw [← ho]
      have j154 : V 154 [(7, .int (blL k c2 o)), (6, .int o), (5, .int (nI c2)), (1, .ref qg), (3, .ref qk)] [] (zput (zput (zput h qg (some (.inl (19, .inl g3)))) qk (some (.inl (35, .inl k)))) qt (some (.inl (8, .inl t3)))) n 0 0 → V 135 [(6, .int o), (5, .int (nI c2)), (1, .ref qg), (3, .ref qk)] [] (zput (zput (zput h qg (some (.inl (19, .inl g3)))) qk (some (.inl (35, .inl k)))) qt (some (.inl (8, .inl t3)))) n 0 0 := by
        intro q
        refine hV.iload 0 dL_launched_135 rfl ?_
        by_cases c137_4 : o = 0
        · refine hV.if_eq_t (tgt := 151) dL_launched_137 (by decide) c137_4 ?_
          refine hV.iconst (v := 0) dL_launched_151 (by decide) ?_
          refine hV.istore (ls2 := [(7, .int 0), (6, .int o), (5, .int (nI c2)), (1, .ref qg), (3, .ref qk)]) dL_launched_152 (by decide) rfl ?_
          have e9 : blL k c2 o = 0 := by unfold blL; rw [if_pos c137_4]
          rw [e9] at q
          exact q
        · refine hV.if_eq_f (tgt := 151) dL_launched_137 (by decide) c137_4 ?_
          refine hV.aload_n 3 dL_launched_140 rfl ?_
          refine hV.iconst (v := 5) dL_launched_141 (by decide) ?_
          refine hV.iload 1 dL_launched_142 rfl ?_
          refine hV.imulN (a := 5) (b := c2) dL_launched_144 ?_
          refine hV.iconst (v := 1) dL_launched_145 (by decide) ?_
          refine hV.iaddN (a := 5 * c2) (b := 1) dL_launched_146 ?_
          refine hV.iald (j := (5 * c2) + 1) dL_launched_147 ((zput_ne (by omega)).trans zput_at) (zix_nI (by omega)) (by omega) ?_
          refine hV.goto (tgt := 152) dL_launched_148 (by decide) ?_
          refine hV.istore (ls2 := [(7, .int (k ((5 * c2) + 1))), (6, .int o), (5, .int (nI c2)), (1, .ref qg), (3, .ref qk)]) dL_launched_152 (by decide) rfl ?_
          have e9 : blL k c2 o = k ((5 * c2) + 1) := by unfold blL; rw [if_neg c137_4]
          rw [e9] at q
          exact q
      refine j154 ?_
      obtain ⟨b, hb⟩ : ∃ z : Int32, z = blL k c2 o := ⟨_, rfl⟩
      rw [← hb]
      have j182 : V 182 [(7, .int b), (6, .int o), (5, .int (nI c2)), (1, .ref qg), (3, .ref qk)] [] (zput (zput (zput h qg (some (.inl (19, .inl g3)))) qk (some (.inl (35, .inl (coK1 k c2))))) qt (some (.inl (8, .inl t3)))) n 0 0 → V 154 [(7, .int b), (6, .int o), (5, .int (nI c2)), (1, .ref qg), (3, .ref qk)] [] (zput (zput (zput h qg (some (.inl (19, .inl g3)))) qk (some (.inl (35, .inl k)))) qt (some (.inl (8, .inl t3)))) n 0 0 := by
        intro q
        refine hV.aload_n 4 dL_launched_154 rfl ?_
        refine hV.iconst (v := 5) dL_launched_155 (by decide) ?_
        refine hV.iload 2 dL_launched_156 rfl ?_
        refine hV.imulN (a := 5) (b := c2) dL_launched_158 ?_
        refine hV.iald (j := 5 * c2) dL_launched_159 ((zput_ne (by omega)).trans zput_at) (zix_nI (by omega)) (by omega) ?_
        refine hV.iconst (v := 2) dL_launched_160 (by decide) ?_
        by_cases c161_5 : (k (5 * c2)) = 2
        · refine hV.icmp_ne_f (tgt := 182) dL_launched_161 (by decide) c161_5 ?_
          refine hV.aload_n 4 dL_launched_164 rfl ?_
          refine hV.iconst (v := 5) dL_launched_165 (by decide) ?_
          refine hV.iload 2 dL_launched_166 rfl ?_
          refine hV.imulN (a := 5) (b := c2) dL_launched_168 ?_
          refine hV.iconst (v := 2) dL_launched_169 (by decide) ?_
          refine hV.iaddN (a := 5 * c2) (b := 2) dL_launched_170 ?_
          refine hV.iconst (v := 1) dL_launched_171 (by decide) ?_
          refine hV.aload_n 4 dL_launched_172 rfl ?_
          refine hV.iconst (v := 5) dL_launched_173 (by decide) ?_
          refine hV.iload 2 dL_launched_174 rfl ?_
          refine hV.imulN (a := 5) (b := c2) dL_launched_176 ?_
          refine hV.iconst (v := 2) dL_launched_177 (by decide) ?_
          refine hV.iaddN (a := 5 * c2) (b := 2) dL_launched_178 ?_
          refine hV.iald (j := (5 * c2) + 2) dL_launched_179 ((zput_ne (by omega)).trans zput_at) (zix_nI (by omega)) (by omega) ?_
          refine hV.isub dL_launched_180 ?_
          refine hV.iast (j := (5 * c2) + 2) dL_launched_181 ((zput_ne (by omega)).trans zput_at) (zix_nI (by omega)) (by omega) ((zput_sw (by omega)).trans (congrArg (fun z => zput z _ _) zput_zput)) ?_
          have e9 : coK1 k c2 = va_up k ((5 * c2) + 2) (1 - (k ((5 * c2) + 2))) := by unfold coK1; rw [if_pos c161_5]
          rw [e9] at q
          exact q
        · refine hV.icmp_ne_t (tgt := 182) dL_launched_161 (by decide) c161_5 ?_
          have e9 : coK1 k c2 = k := by unfold coK1; rw [if_neg c161_5]
          rw [e9] at q
          exact q
      refine j182 ?_
      have j205 : V 205 [(7, .int b), (6, .int o), (5, .int (nI c2)), (1, .ref qg), (3, .ref qk)] [] (zput (zput (zput h qg (some (.inl (19, .inl (coG1 g3 ((coK1 k c2) (5 * c2)) o))))) qk (some (.inl (35, .inl (coK1 k c2))))) qt (some (.inl (8, .inl t3)))) n 0 0 → V 182 [(7, .int b), (6, .int o), (5, .int (nI c2)), (1, .ref qg), (3, .ref qk)] [] (zput (zput (zput h qg (some (.inl (19, .inl g3)))) qk (some (.inl (35, .inl (coK1 k c2))))) qt (some (.inl (8, .inl t3)))) n 0 0 := by
        intro q
        refine hV.aload_n 4 dL_launched_182 rfl ?_
        refine hV.iconst (v := 5) dL_launched_183 (by decide) ?_
        refine hV.iload 2 dL_launched_184 rfl ?_
        refine hV.imulN (a := 5) (b := c2) dL_launched_186 ?_
        refine hV.iald (j := 5 * c2) dL_launched_187 ((zput_ne (by omega)).trans zput_at) (zix_nI (by omega)) (by omega) ?_
        refine hV.iconst (v := 1) dL_launched_188 (by decide) ?_
        by_cases c189_6 : ((coK1 k c2) (5 * c2)) = 1
        · refine hV.icmp_ne_f (tgt := 205) dL_launched_189 (by decide) c189_6 ?_
          refine hV.iload 1 dL_launched_192 rfl ?_
          by_cases c194_7 : o = 0
          · refine hV.if_eq_t (tgt := 205) dL_launched_194 (by decide) c194_7 ?_
            have e9 : coG1 g3 ((coK1 k c2) (5 * c2)) o = g3 := by unfold coG1; rw [if_pos c189_6, if_pos c194_7]
            rw [e9] at q
            exact q
          · refine hV.if_eq_f (tgt := 205) dL_launched_194 (by decide) c194_7 ?_
            refine hV.aload_n 3 dL_launched_197 rfl ?_
            refine hV.bipush (v := 9) dL_launched_198 (by decide) ?_
            refine hV.dup2 dL_launched_200 rfl rfl ?_
            refine hV.iald (j := 9) dL_launched_201 ((zput_ne (by omega)).trans ((zput_ne (by omega)).trans zput_at)) ⟨by decide, by decide⟩ (by decide) ?_
            refine hV.iconst (v := 1) dL_launched_202 (by decide) ?_
            refine hV.isub dL_launched_203 ?_
            refine hV.iast (j := 9) dL_launched_204 ((zput_ne (by omega)).trans ((zput_ne (by omega)).trans zput_at)) ⟨by decide, by decide⟩ (by decide) ((zput_sw (by omega)).trans (congrArg (fun z => zput z _ _) ((zput_sw (by omega)).trans (congrArg (fun z => zput z _ _) zput_zput)))) ?_
            have e9 : coG1 g3 ((coK1 k c2) (5 * c2)) o = va_up g3 9 ((g3 9) - 1) := by unfold coG1; rw [if_pos c189_6, if_neg c194_7]
            rw [e9] at q
            exact q
        · refine hV.icmp_ne_t (tgt := 205) dL_launched_189 (by decide) c189_6 ?_
          have e9 : coG1 g3 ((coK1 k c2) (5 * c2)) o = g3 := by unfold coG1; rw [if_neg c189_6]
          rw [e9] at q
          exact q
      refine j205 ?_
      refine hV.aload_n 3 dL_launched_205 rfl ?_
      refine hV.iconst (v := 0) dL_launched_206 (by decide) ?_
      refine hV.dup2 dL_launched_207 rfl rfl ?_
      refine hV.iald (j := 0) dL_launched_208 ((zput_ne (by omega)).trans ((zput_ne (by omega)).trans zput_at)) ⟨by decide, by decide⟩ (by decide) ?_
      refine hV.iload 0 dL_launched_209 rfl ?_
      refine hV.iadd dL_launched_211 ?_
      refine hV.iast (j := 0) dL_launched_212 ((zput_ne (by omega)).trans ((zput_ne (by omega)).trans zput_at)) ⟨by decide, by decide⟩ (by decide) ((zput_sw (by omega)).trans (congrArg (fun z => zput z _ _) ((zput_sw (by omega)).trans (congrArg (fun z => zput z _ _) zput_zput)))) ?_
      refine hV.aload_n 3 dL_launched_213 rfl ?_
      refine hV.iconst (v := 3) dL_launched_214 (by decide) ?_
      refine hV.dup2 dL_launched_215 rfl rfl ?_
      refine hV.iald (j := 3) dL_launched_216 ((zput_ne (by omega)).trans ((zput_ne (by omega)).trans zput_at)) ⟨by decide, by decide⟩ (by decide) ?_
      refine zTop (v := (coG1 g3 ((coK1 k c2) (5 * c2)) o) 3) ((va_ne (by omega)).trans (rfl)) ?_
      refine hV.iload 0 dL_launched_217 rfl ?_
      refine hV.iadd dL_launched_219 ?_
      refine hV.iast (j := 3) dL_launched_220 ((zput_ne (by omega)).trans ((zput_ne (by omega)).trans zput_at)) ⟨by decide, by decide⟩ (by decide) ((zput_sw (by omega)).trans (congrArg (fun z => zput z _ _) ((zput_sw (by omega)).trans (congrArg (fun z => zput z _ _) zput_zput)))) ?_
      refine zHeap (h2 := zput (zput (zput h qg (some (.inl (19, .inl (coG2 (coG1 g3 ((coK1 k c2) (5 * c2)) o) b))))) qk (some (.inl (35, .inl (coK1 k c2))))) qt (some (.inl (8, .inl t3)))) rfl ?_
      have j237 : V 237 [(7, .int b), (6, .int o), (5, .int (nI c2)), (1, .ref qg), (3, .ref qk)] [] (zput (zput (zput h qg (some (.inl (19, .inl (coG3 (coG2 (coG1 g3 ((coK1 k c2) (5 * c2)) o) b) o))))) qk (some (.inl (35, .inl (coK1 k c2))))) qt (some (.inl (8, .inl t3)))) n 0 0 → V 221 [(7, .int b), (6, .int o), (5, .int (nI c2)), (1, .ref qg), (3, .ref qk)] [] (zput (zput (zput h qg (some (.inl (19, .inl (coG2 (coG1 g3 ((coK1 k c2) (5 * c2)) o) b))))) qk (some (.inl (35, .inl (coK1 k c2))))) qt (some (.inl (8, .inl t3)))) n 0 0 := by
        intro q
        refine hV.aload_n 3 dL_launched_221 rfl ?_
        refine hV.iconst (v := 4) dL_launched_222 (by decide) ?_
        refine hV.dup2 dL_launched_223 rfl rfl ?_
        refine hV.iald (j := 4) dL_launched_224 ((zput_ne (by omega)).trans ((zput_ne (by omega)).trans zput_at)) ⟨by decide, by decide⟩ (by decide) ?_
        refine hV.iload 1 dL_launched_225 rfl ?_
        by_cases c227_8 : o = 0
        · refine hV.if_eq_t (tgt := 234) dL_launched_227 (by decide) c227_8 ?_
          refine hV.iconst (v := 1) dL_launched_234 (by decide) ?_
          refine hV.iadd dL_launched_235 ?_
          refine hV.iast (j := 4) dL_launched_236 ((zput_ne (by omega)).trans ((zput_ne (by omega)).trans zput_at)) ⟨by decide, by decide⟩ (by decide) ((zput_sw (by omega)).trans (congrArg (fun z => zput z _ _) ((zput_sw (by omega)).trans (congrArg (fun z => zput z _ _) zput_zput)))) ?_
          have e9 : coG3 (coG2 (coG1 g3 ((coK1 k c2) (5 * c2)) o) b) o = va_up (coG2 (coG1 g3 ((coK1 k c2) (5 * c2)) o) b) 4 (((coG2 (coG1 g3 ((coK1 k c2) (5 * c2)) o) b) 4) + 1) := by unfold coG3; rw [if_pos c227_8]
          rw [e9] at q
          exact q
        · refine hV.if_eq_f (tgt := 234) dL_launched_227 (by decide) c227_8 ?_
          refine hV.iconst (v := 0) dL_launched_230 (by decide) ?_
          refine hV.goto (tgt := 235) dL_launched_231 (by decide) ?_
          refine hV.iadd dL_launched_235 ?_
          refine hV.iast (j := 4) dL_launched_236 ((zput_ne (by omega)).trans ((zput_ne (by omega)).trans zput_at)) ⟨by decide, by decide⟩ (by decide) ((zput_sw (by omega)).trans (congrArg (fun z => zput z _ _) ((zput_sw (by omega)).trans (congrArg (fun z => zput z _ _) zput_zput)))) ?_
          have e9 : coG3 (coG2 (coG1 g3 ((coK1 k c2) (5 * c2)) o) b) o = va_up (coG2 (coG1 g3 ((coK1 k c2) (5 * c2)) o) b) 4 (((coG2 (coG1 g3 ((coK1 k c2) (5 * c2)) o) b) 4) + 0) := by unfold coG3; rw [if_neg c227_8]
          rw [e9] at q
          exact q
      refine j237 ?_
      have j258 : V 258 [(7, .int b), (6, .int o), (5, .int (nI c2)), (1, .ref qg), (3, .ref qk)] [] (zput (zput (zput h qg (some (.inl (19, .inl (coG4 (coG3 (coG2 (coG1 g3 ((coK1 k c2) (5 * c2)) o) b) o) o b))))) qk (some (.inl (35, .inl (coK1 k c2))))) qt (some (.inl (8, .inl t3)))) n 0 0 → V 237 [(7, .int b), (6, .int o), (5, .int (nI c2)), (1, .ref qg), (3, .ref qk)] [] (zput (zput (zput h qg (some (.inl (19, .inl (coG3 (coG2 (coG1 g3 ((coK1 k c2) (5 * c2)) o) b) o))))) qk (some (.inl (35, .inl (coK1 k c2))))) qt (some (.inl (8, .inl t3)))) n 0 0 := by
        intro q
        refine hV.aload_n 3 dL_launched_237 rfl ?_
        refine hV.iconst (v := 5) dL_launched_238 (by decide) ?_
        refine hV.dup2 dL_launched_239 rfl rfl ?_
        refine hV.iald (j := 5) dL_launched_240 ((zput_ne (by omega)).trans ((zput_ne (by omega)).trans zput_at)) ⟨by decide, by decide⟩ (by decide) ?_
        refine hV.iload 1 dL_launched_241 rfl ?_
        by_cases c243_9 : o = 0
        · refine hV.if_eq_t (tgt := 255) dL_launched_243 (by decide) c243_9 ?_
          refine hV.iconst (v := 0) dL_launched_255 (by decide) ?_
          refine hV.iadd dL_launched_256 ?_
          refine hV.iast (j := 5) dL_launched_257 ((zput_ne (by omega)).trans ((zput_ne (by omega)).trans zput_at)) ⟨by decide, by decide⟩ (by decide) ((zput_sw (by omega)).trans (congrArg (fun z => zput z _ _) ((zput_sw (by omega)).trans (congrArg (fun z => zput z _ _) zput_zput)))) ?_
          have e9 : coG4 (coG3 (coG2 (coG1 g3 ((coK1 k c2) (5 * c2)) o) b) o) o b = va_up (coG3 (coG2 (coG1 g3 ((coK1 k c2) (5 * c2)) o) b) o) 5 (((coG3 (coG2 (coG1 g3 ((coK1 k c2) (5 * c2)) o) b) o) 5) + 0) := by unfold coG4; rw [if_pos c243_9]
          rw [e9] at q
          exact q
        · refine hV.if_eq_f (tgt := 255) dL_launched_243 (by decide) c243_9 ?_
          refine hV.iload 0 dL_launched_246 rfl ?_
          by_cases c248_10 : b = 0
          · refine hV.if_ne_f (tgt := 255) dL_launched_248 (by decide) c248_10 ?_
            refine hV.iconst (v := 1) dL_launched_251 (by decide) ?_
            refine hV.goto (tgt := 256) dL_launched_252 (by decide) ?_
            refine hV.iadd dL_launched_256 ?_
            refine hV.iast (j := 5) dL_launched_257 ((zput_ne (by omega)).trans ((zput_ne (by omega)).trans zput_at)) ⟨by decide, by decide⟩ (by decide) ((zput_sw (by omega)).trans (congrArg (fun z => zput z _ _) ((zput_sw (by omega)).trans (congrArg (fun z => zput z _ _) zput_zput)))) ?_
            have e9 : coG4 (coG3 (coG2 (coG1 g3 ((coK1 k c2) (5 * c2)) o) b) o) o b = va_up (coG3 (coG2 (coG1 g3 ((coK1 k c2) (5 * c2)) o) b) o) 5 (((coG3 (coG2 (coG1 g3 ((coK1 k c2) (5 * c2)) o) b) o) 5) + 1) := by unfold coG4; rw [if_neg c243_9, if_pos c248_10]
            rw [e9] at q
            exact q
          · refine hV.if_ne_t (tgt := 255) dL_launched_248 (by decide) c248_10 ?_
            refine hV.iconst (v := 0) dL_launched_255 (by decide) ?_
            refine hV.iadd dL_launched_256 ?_
            refine hV.iast (j := 5) dL_launched_257 ((zput_ne (by omega)).trans ((zput_ne (by omega)).trans zput_at)) ⟨by decide, by decide⟩ (by decide) ((zput_sw (by omega)).trans (congrArg (fun z => zput z _ _) ((zput_sw (by omega)).trans (congrArg (fun z => zput z _ _) zput_zput)))) ?_
            have e9 : coG4 (coG3 (coG2 (coG1 g3 ((coK1 k c2) (5 * c2)) o) b) o) o b = va_up (coG3 (coG2 (coG1 g3 ((coK1 k c2) (5 * c2)) o) b) o) 5 (((coG3 (coG2 (coG1 g3 ((coK1 k c2) (5 * c2)) o) b) o) 5) + 0) := by unfold coG4; rw [if_neg c243_9, if_neg c248_10]
            rw [e9] at q
            exact q
      refine j258 ?_
      refine hV.aload_n 4 dL_launched_258 rfl ?_
      refine hV.iconst (v := 5) dL_launched_259 (by decide) ?_
      refine hV.iload 2 dL_launched_260 rfl ?_
      refine hV.imulN (a := 5) (b := c2) dL_launched_262 ?_
      refine hV.iconst (v := 3) dL_launched_263 (by decide) ?_
      refine hV.iaddN (a := 5 * c2) (b := 3) dL_launched_264 ?_
      refine hV.dup2 dL_launched_265 rfl rfl ?_
      refine hV.iald (j := (5 * c2) + 3) dL_launched_266 ((zput_ne (by omega)).trans zput_at) (zix_nI (by omega)) (by omega) ?_
      refine hV.iconst (v := 1) dL_launched_267 (by decide) ?_
      refine hV.iadd dL_launched_268 ?_
      refine hV.iast (j := (5 * c2) + 3) dL_launched_269 ((zput_ne (by omega)).trans zput_at) (zix_nI (by omega)) (by omega) ((zput_sw (by omega)).trans (congrArg (fun z => zput z _ _) zput_zput)) ?_
      refine hV.aload_n 4 dL_launched_270 rfl ?_
      refine hV.iconst (v := 5) dL_launched_271 (by decide) ?_
      refine hV.iload 2 dL_launched_272 rfl ?_
      refine hV.imulN (a := 5) (b := c2) dL_launched_274 ?_
      refine hV.iconst (v := 4) dL_launched_275 (by decide) ?_
      refine hV.iaddN (a := 5 * c2) (b := 4) dL_launched_276 ?_
      refine hV.dup2 dL_launched_277 rfl rfl ?_
      refine hV.iald (j := (5 * c2) + 4) dL_launched_278 ((zput_ne (by omega)).trans zput_at) (zix_nI (by omega)) (by omega) ?_
      refine zTop (v := (coK1 k c2) ((5 * c2) + 4)) ((va_ne (by omega)).trans (rfl)) ?_
      refine hV.iload 0 dL_launched_279 rfl ?_
      refine hV.iadd dL_launched_281 ?_
      refine hV.iast (j := (5 * c2) + 4) dL_launched_282 ((zput_ne (by omega)).trans zput_at) (zix_nI (by omega)) (by omega) ((zput_sw (by omega)).trans (congrArg (fun z => zput z _ _) zput_zput)) ?_
      refine hV.aload_n 3 dL_launched_283 rfl ?_
      refine hV.bipush (v := 11) dL_launched_284 (by decide) ?_
      refine hV.iload 2 dL_launched_286 rfl ?_
      refine hV.iast (j := 11) dL_launched_288 ((zput_ne (by omega)).trans ((zput_ne (by omega)).trans zput_at)) ⟨by decide, by decide⟩ (by decide) ((zput_sw (by omega)).trans (congrArg (fun z => zput z _ _) ((zput_sw (by omega)).trans (congrArg (fun z => zput z _ _) zput_zput)))) ?_
      refine zHeap (h2 := zput (zput (zput h qg (some (.inl (19, .inl (coG5 (coG4 (coG3 (coG2 (coG1 g3 ((coK1 k c2) (5 * c2)) o) b) o) o b) c2))))) qk (some (.inl (35, .inl (coK2 (coK1 k c2) c2 b))))) qt (some (.inl (8, .inl t3)))) rfl ?_
      obtain ⟨g5, hg5⟩ : ∃ z : Nat → Int32, z = coG5 (coG4 (coG3 (coG2 (coG1 g3 ((coK1 k c2) (5 * c2)) o) b) o) o b) c2 := ⟨_, rfl⟩
      rw [← hg5]
      have j314 : V 314 [(7, .int b), (6, .int o), (5, .int (nI c2)), (1, .ref qg), (3, .ref qk)] [] (zput (zput (zput h qg (some (.inl (19, .inl (coG6 g5 c2))))) qk (some (.inl (35, .inl (coK2 (coK1 k c2) c2 b))))) qt (some (.inl (8, .inl t3)))) n 0 0 → V 289 [(7, .int b), (6, .int o), (5, .int (nI c2)), (1, .ref qg), (3, .ref qk)] [] (zput (zput (zput h qg (some (.inl (19, .inl g5)))) qk (some (.inl (35, .inl (coK2 (coK1 k c2) c2 b))))) qt (some (.inl (8, .inl t3)))) n 0 0 := by
        intro q
        refine hV.iload 2 dL_launched_289 rfl ?_
        refine hV.aload_n 3 dL_launched_291 rfl ?_
        refine hV.bipush (v := 12) dL_launched_292 (by decide) ?_
        refine hV.iald (j := 12) dL_launched_294 ((zput_ne (by omega)).trans ((zput_ne (by omega)).trans zput_at)) ⟨by decide, by decide⟩ (by decide) ?_
        by_cases c295_11 : (nI c2) = (g5 12)
        · refine hV.icmp_ne_f (tgt := 314) dL_launched_295 (by decide) c295_11 ?_
          refine hV.aload_n 3 dL_launched_298 rfl ?_
          refine hV.bipush (v := 6) dL_launched_299 (by decide) ?_
          refine hV.iald (j := 6) dL_launched_301 ((zput_ne (by omega)).trans ((zput_ne (by omega)).trans zput_at)) ⟨by decide, by decide⟩ (by decide) ?_
          refine hV.iconst (v := 4) dL_launched_302 (by decide) ?_
          by_cases c303_12 : 4 ≤ (g5 6)
          · refine hV.icmp_ge_t (tgt := 314) dL_launched_303 (by decide) c303_12 ?_
            have e9 : coG6 g5 c2 = g5 := by unfold coG6; rw [if_pos c295_11, if_pos c303_12]
            rw [e9] at q
            exact q
          · refine hV.icmp_ge_f (tgt := 314) dL_launched_303 (by decide) c303_12 ?_
            refine hV.aload_n 3 dL_launched_306 rfl ?_
            refine hV.bipush (v := 6) dL_launched_307 (by decide) ?_
            refine hV.dup2 dL_launched_309 rfl rfl ?_
            refine hV.iald (j := 6) dL_launched_310 ((zput_ne (by omega)).trans ((zput_ne (by omega)).trans zput_at)) ⟨by decide, by decide⟩ (by decide) ?_
            refine hV.iconst (v := 1) dL_launched_311 (by decide) ?_
            refine hV.iadd dL_launched_312 ?_
            refine hV.iast (j := 6) dL_launched_313 ((zput_ne (by omega)).trans ((zput_ne (by omega)).trans zput_at)) ⟨by decide, by decide⟩ (by decide) ((zput_sw (by omega)).trans (congrArg (fun z => zput z _ _) ((zput_sw (by omega)).trans (congrArg (fun z => zput z _ _) zput_zput)))) ?_
            have e9 : coG6 g5 c2 = va_up g5 6 ((g5 6) + 1) := by unfold coG6; rw [if_pos c295_11, if_neg c303_12]
            rw [e9] at q
            exact q
        · refine hV.icmp_ne_t (tgt := 314) dL_launched_295 (by decide) c295_11 ?_
          have e9 : coG6 g5 c2 = g5 := by unfold coG6; rw [if_neg c295_11]
          rw [e9] at q
          exact q
      refine j314 ?_
      refine hV.iload 0 dL_launched_314 rfl ?_
      exact hE.1 dL_launched_316 rfl rfl (by decide) (by decide) (zRi (by have e9 : lF pins g t c = ((g3, t3), c2) := (by unfold lF; rw [he, hg2]); unfold lV; rw [e9, hb, ho]) (by have e9 : lF pins g t c = ((g3, t3), c2) := (by unfold lF; rw [he, hg2]); unfold lG lK lT coG coK; rw [e9]; dsimp only; rw [← ho, ← hb, ← hg5]) rfl)
    | succ k9 ih =>
      intro j g3 t3 c2 hj he hc2
      refine hV.iload 0 dL_launched_38 rfl ?_
      refine hV.bipush (v := 8) dL_launched_40 (by decide) ?_
      refine hV.icmp_ge_f (tgt := 126) dL_launched_42 (by decide) (fun q => absurd ((nI_leI (a := 8) (b := j) (by omega) (by omega)).mp q) (by omega)) ?_
      refine hV.aload 6 dL_launched_45 rfl ?_
      refine hV.iload 0 dL_launched_47 rfl ?_
      refine hV.bipush (v := 7) dL_launched_49 (by decide) ?_
      refine hV.iload 0 dL_launched_51 rfl ?_
      refine hV.imulN (a := 7) (b := j) dL_launched_53 ?_
      refine hV.iload 1 dL_launched_54 rfl ?_
      refine hV.iaddN (a := 7 * j) (b := c2) dL_launched_56 ?_
      refine hV.iast (j := j) dL_launched_57 zput_at (zix_nI (by omega)) (by omega) zput_zput ?_
      refine hV.aload_n 4 dL_launched_58 rfl ?_
      refine hV.bipush (v := 7) dL_launched_59 (by decide) ?_
      refine hV.iload 0 dL_launched_61 rfl ?_
      refine hV.imulN (a := 7) (b := j) dL_launched_63 ?_
      refine hV.iload 1 dL_launched_64 rfl ?_
      refine hV.iaddN (a := 7 * j) (b := c2) dL_launched_66 ?_
      refine hV.iald (j := (7 * j) + c2) dL_launched_67 ((zput_ne (by omega)).trans ((zput_ne (by omega)).trans ((zput_ne (by omega)).trans hp))) (zix_nI (by omega)) (by omega) ?_
      refine hV.istore (ls2 := [(7, .int (pins ((7 * j) + c2))), (6, .int (nI j)), (5, .int (nI c2)), (0, .int (nI c)), (1, .ref qg), (2, .ref qp), (3, .ref qk), (4, .ref qt)]) dL_launched_68 (by decide) rfl ?_
      refine hV.iload 0 dL_launched_70 rfl ?_
      by_cases c72_13 : (pins ((7 * j) + c2)) = 0
      · refine hV.if_ne_f (tgt := 90) dL_launched_72 (by decide) c72_13 ?_
        refine hV.aload_n 4 dL_launched_75 rfl ?_
        refine hV.iconst (v := 2) dL_launched_76 (by decide) ?_
        refine hV.callS1 (rest := []) dL_launched_77 (c_L_draw G (g := g3) ((zput_ne (by omega)).trans ((zput_ne (by omega)).trans zput_at)) (by decide)) my_L_draw ks_L_57 rfl rfl (Nat.le_of_ble_eq_true rfl) (Nat.le_of_ble_eq_true rfl) (Nat.le_of_ble_eq_true rfl) (Nat.le_of_ble_eq_true rfl) (Nat.le_of_ble_eq_true rfl) (st2 := [.int (drLv g3 2)]) (k2 := 0) (g2 := 0) rfl rfl rfl ?_
        refine zHeap (h2 := zput (zput (zput h qg (some (.inl (19, .inl (drL g3))))) qk (some (.inl (35, .inl k)))) qt (some (.inl (8, .inl (va_up t3 j (nI ((7 * j) + c2))))))) ((zput_sw (by omega)).trans (congrArg (fun z => zput z _ _) ((zput_sw (by omega)).trans (congrArg (fun z => zput z _ _) zput_zput)))) ?_
        by_cases c80_14 : (drLv g3 2) = 0
        · refine hV.if_ne_f (tgt := 87) dL_launched_80 (by decide) c80_14 ?_
          refine hV.iconst (v := (-1)) dL_launched_83 (by decide) ?_
          refine hV.goto (tgt := 88) dL_launched_84 (by decide) ?_
          refine hV.istore (ls2 := [(7, .int (-1)), (6, .int (nI j)), (5, .int (nI c2)), (0, .int (nI c)), (1, .ref qg), (2, .ref qp), (3, .ref qk), (4, .ref qt)]) dL_launched_88 (by decide) rfl ?_
          refine hV.pick [0, 2, 1, 3, 4, 5, 6, 7] (ls2 := [(7, .int (-1)), (5, .int (nI c2)), (6, .int (nI j)), (0, .int (nI c)), (1, .ref qg), (2, .ref qp), (3, .ref qk), (4, .ref qt)]) rfl ?_
          refine hbn _ _ _ _ hc2 (Or.inr rfl) ?_
          refine hV.iinc 2 (v := nI (j + 1)) (ls2 := [(6, .int (nI (j + 1))), (5, .int (nI (bnc c2 (-1)))), (7, .int (-1)), (0, .int (nI c)), (1, .ref qg), (2, .ref qp), (3, .ref qk), (4, .ref qt)]) dL_launched_120 rfl (nI_1 _) (by decide) rfl ?_
          refine hV.goto (tgt := 38) dL_launched_123 (by decide) ?_
          refine hV.pick [0, 1, 3, 4, 5, 6, 7] (ls2 := [(6, .int (nI (j + 1))), (5, .int (nI (bnc c2 (-1)))), (0, .int (nI c)), (1, .ref qg), (2, .ref qp), (3, .ref qk), (4, .ref qt)]) rfl ?_
          exact ih (j + 1) _ _ _ (by omega) (by show _ = falLS pins (falL pins g2 t c j).1.1 (falL pins g2 t c j).1.2 j (falL pins g2 t c j).2; rw [← he]; unfold falLS; rw [if_pos c72_13, if_pos c80_14]) (bnc_lt hc2)
        · refine hV.if_ne_t (tgt := 87) dL_launched_80 (by decide) c80_14 ?_
          refine hV.iconst (v := 1) dL_launched_87 (by decide) ?_
          refine hV.istore (ls2 := [(7, .int 1), (6, .int (nI j)), (5, .int (nI c2)), (0, .int (nI c)), (1, .ref qg), (2, .ref qp), (3, .ref qk), (4, .ref qt)]) dL_launched_88 (by decide) rfl ?_
          refine hV.pick [0, 2, 1, 3, 4, 5, 6, 7] (ls2 := [(7, .int 1), (5, .int (nI c2)), (6, .int (nI j)), (0, .int (nI c)), (1, .ref qg), (2, .ref qp), (3, .ref qk), (4, .ref qt)]) rfl ?_
          refine hbn _ _ _ _ hc2 (Or.inl rfl) ?_
          refine hV.iinc 2 (v := nI (j + 1)) (ls2 := [(6, .int (nI (j + 1))), (5, .int (nI (bnc c2 1))), (7, .int 1), (0, .int (nI c)), (1, .ref qg), (2, .ref qp), (3, .ref qk), (4, .ref qt)]) dL_launched_120 rfl (nI_1 _) (by decide) rfl ?_
          refine hV.goto (tgt := 38) dL_launched_123 (by decide) ?_
          refine hV.pick [0, 1, 3, 4, 5, 6, 7] (ls2 := [(6, .int (nI (j + 1))), (5, .int (nI (bnc c2 1))), (0, .int (nI c)), (1, .ref qg), (2, .ref qp), (3, .ref qk), (4, .ref qt)]) rfl ?_
          exact ih (j + 1) _ _ _ (by omega) (by show _ = falLS pins (falL pins g2 t c j).1.1 (falL pins g2 t c j).1.2 j (falL pins g2 t c j).2; rw [← he]; unfold falLS; rw [if_pos c72_13, if_neg c80_14]) (bnc_lt hc2)
      · refine hV.if_ne_t (tgt := 90) dL_launched_72 (by decide) c72_13 ?_
        refine hV.pick [0, 2, 1, 3, 4, 5, 6, 7] (ls2 := [(7, .int (pins ((7 * j) + c2))), (5, .int (nI c2)), (6, .int (nI j)), (0, .int (nI c)), (1, .ref qg), (2, .ref qp), (3, .ref qk), (4, .ref qt)]) rfl ?_
        refine hbn _ _ _ _ hc2 ((hpin _ (by omega)).resolve_left c72_13) ?_
        refine hV.iinc 2 (v := nI (j + 1)) (ls2 := [(6, .int (nI (j + 1))), (5, .int (nI (bnc c2 (pins ((7 * j) + c2))))), (7, .int (pins ((7 * j) + c2))), (0, .int (nI c)), (1, .ref qg), (2, .ref qp), (3, .ref qk), (4, .ref qt)]) dL_launched_120 rfl (nI_1 _) (by decide) rfl ?_
        refine hV.goto (tgt := 38) dL_launched_123 (by decide) ?_
        refine hV.pick [0, 1, 3, 4, 5, 6, 7] (ls2 := [(6, .int (nI (j + 1))), (5, .int (nI (bnc c2 (pins ((7 * j) + c2))))), (0, .int (nI c)), (1, .ref qg), (2, .ref qp), (3, .ref qk), (4, .ref qt)]) rfl ?_
        exact ih (j + 1) _ _ _ (by omega) (by show _ = falLS pins (falL pins g2 t c j).1.1 (falL pins g2 t c j).1.2 j (falL pins g2 t c j).2; rw [← he]; unfold falLS; rw [if_neg c72_13]) (bnc_lt hc2)
  exact loop (8) 0 g2 t c (by omega) rfl hc

