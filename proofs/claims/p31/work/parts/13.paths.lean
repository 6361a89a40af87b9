/-! Arrays.fill; Paths: 0 counted, 1 gone, 2 next -/
theorem zput_at {h : zH} {a : Nat} {c : zC} : zput h a c a = c := if_pos rfl
theorem zput_ne {h : zH} {a q : Nat} {c : zC} (hq : q ≠ a) : zput h a c q = h q := if_neg hq
theorem zput_zput {h : zH} {a : Nat} {c d : zC} : zput (zput h a c) a d = zput h a d := by
  funext q; unfold zput; split <;> rfl
theorem zput_self {h : zH} {a : Nat} {c : zC} (hc : h a = c) : zput h a c = h := by
  funext q; unfold zput; split
  · next e => rw [e, hc]
  · rfl
def filF (f : Nat → Int32) (N : Nat) (v : Int32) : Nat → Int32 := fun k => if k < N then v else f k
theorem filF_0 (f : Nat → Int32) (v : Int32) : filF f 0 v = f := by funext k; simp [filF]
theorem filF_s (f : Nat → Int32) (j : Nat) (v : Int32) : va_up (filF f j v) j v = filF f (j + 1) v := by
  funext k
  unfold va_up filF
  by_cases h1 : k = j
  · rw [if_pos h1, if_pos (by omega)]
  · rw [if_neg h1]
    by_cases h2 : k < j
    · rw [if_pos h2, if_pos (by omega)]
    · rw [if_neg h2, if_neg (by omega)]
def rowN (f g : Nat → Int32) (r : Nat) (x0 : Nat → Int32) : Nat → Nat → Int32
  | 0 => x0
  | c + 1 => if f (r * 7 + c) < 0 then (if 0 < f (r * 7 + c) then rowN f g r x0 c else va_up (rowN f g r x0 c) (bnc c (-1)) (rowN f g r x0 c (bnc c (-1)) + g c)) else va_up (if 0 < f (r * 7 + c) then rowN f g r x0 c else va_up (rowN f g r x0 c) (bnc c (-1)) (rowN f g r x0 c (bnc c (-1)) + g c)) (bnc c 1) ((if 0 < f (r * 7 + c) then rowN f g r x0 c else va_up (rowN f g r x0 c) (bnc c (-1)) (rowN f g r x0 c (bnc c (-1)) + g c)) (bnc c 1) + g c)
def rowX (f : Nat → Int32) (r : Nat) (π : zB) : Nat → Int32 := rowN f (π 0) r (filF (π 2) 7 0) 7
def rowP (f : Nat → Int32) (r : Nat) (π : zB) : zB := sa (sa π 2 (rowX f r π)) 0 (va_cpy (rowX f r π) (π 0) 0 0 7)
def cbrN (f : Nat → Int32) (π : zB) : Nat → zB
  | 0 => π
  | r + 1 => rowP f r (cbrN f π r)
def cbrP (f : Nat → Int32) (c : Nat) (π : zB) : zB := cbrN f (sa π 0 (va_up (filF (π 0) 7 0) c 1)) 8
def goF (f : Nat → Int32) : Nat → Nat → (Nat → Int32) → Nat → Int32
  | 0, c, e => va_up e c (e c + 1)
  | d + 1, c, e => if f ((7 - d) * 7 + c) < 0 then (if 0 < f ((7 - d) * 7 + c) then e else goF f d (bnc c (-1)) e) else goF f d (bnc c 1) (if 0 < f ((7 - d) * 7 + c) then e else goF f d (bnc c (-1)) e)
theorem goF_c1 {f : Nat → Int32} {d c : Nat} {e : Nat → Int32} (h1 : 0 < f ((7 - d) * 7 + c)) (h2 : f ((7 - d) * 7 + c) < 0) : goF f (d + 1) c e = e := by
  rw [goF, if_pos h2, if_pos h1]
theorem goF_c2 {f : Nat → Int32} {d c : Nat} {e : Nat → Int32} (h1 : ¬ 0 < f ((7 - d) * 7 + c)) (h2 : f ((7 - d) * 7 + c) < 0) : goF f (d + 1) c e = goF f d (bnc c (-1)) e := by
  rw [goF, if_pos h2, if_neg h1]
theorem goF_c3 {f : Nat → Int32} {d c : Nat} {e : Nat → Int32} (h1 : 0 < f ((7 - d) * 7 + c)) (h2 : ¬ f ((7 - d) * 7 + c) < 0) : goF f (d + 1) c e = goF f d (bnc c 1) e := by
  rw [goF, if_neg h2, if_pos h1]
theorem goF_c4 {f : Nat → Int32} {d c : Nat} {e : Nat → Int32} (h1 : ¬ 0 < f ((7 - d) * 7 + c)) (h2 : ¬ f ((7 - d) * 7 + c) < 0) : goF f (d + 1) c e = goF f d (bnc c 1) (goF f d (bnc c (-1)) e) := by
  rw [goF, if_neg h2, if_neg h1]
def gawP (f : Nat → Int32) (c : Nat) (π : zB) : zB := sa π 1 (goF f 8 c (filF (π 1) 7 0))

set_option maxRecDepth 100000 in
set_option maxHeartbeats 4000000 in
theorem c_J7_fill_53178 {l : Launch} {D : va_G} {base : Nat} (G : l.stackTraces = false) {h : zH} {n : Nat} {a N : Nat} {f : Nat → Int32} {v : Int32} (ha : h a = some (.inl (N, .inl f))) (hN : N < 2 ^ 31) :
    zCt l D base 1 yJ7_fill_53178 w_J7_fill_53178 [.ref a, .int v] (h) n 0 0 (zR none (zput h a (some (.inl (N, .inl (filF f N v))))) n) := by
  refine zCt.of G (by decide) (Nat.le_of_ble_eq_true rfl) (fun Sx V X hV hE hX => ?_)
  show V 0 [(0, .ref a), (1, .int v)] [] (h) n 0 0
  refine zHeap (h2 := zput h a (some (.inl (N, .inl (filF f 0 v))))) (by rw [filF_0, zput_self ha]) ?_
  refine hV.iconst (v := 0) dJ7_fill_53178_0 (by decide) ?_
  refine hV.istore_n (ls2 := [(2, .int 0), (0, .ref a), (1, .int v)]) dJ7_fill_53178_1 (by decide) rfl ?_
  refine hV.aload_n 1 dJ7_fill_53178_2 rfl ?_
  refine hV.alen (v := nI N) dJ7_fill_53178_3 zput_at rfl ?_
  refine hV.istore_n (ls2 := [(3, .int (nI N)), (2, .int 0), (0, .ref a), (1, .int v)]) dJ7_fill_53178_4 (by decide) rfl ?_
  have loop : ∀ (r i : Nat) , i + r = N → V 5 [(3, .int (nI N)), (2, .int (nI i)), (0, .ref a), (1, .int v)] [] (zput h a (some (.inl (N, .inl (filF f i v))))) n 0 0 := by
    intro r
    induction r with
    | zero =>
      intro i  hi 
      refine hV.iload_n 1 dJ7_fill_53178_5 rfl ?_
      refine hV.iload_n 0 dJ7_fill_53178_6 rfl ?_
      refine hV.icmp_ge_t (tgt := 20) dJ7_fill_53178_7 (by decide) ((nI_leI (a := N) (b := i) (by omega) (by omega)).mpr (by omega)) ?_
      exact hE.2.2.2 dJ7_fill_53178_20 rfl (by decide) (by decide) (zRv (by have e : i = N := (by omega); subst e; rfl) rfl)
    | succ r ih =>
      intro i  hi 
      refine hV.iload_n 1 dJ7_fill_53178_5 rfl ?_
      refine hV.iload_n 0 dJ7_fill_53178_6 rfl ?_
      refine hV.icmp_ge_f (tgt := 20) dJ7_fill_53178_7 (by decide) (fun q => absurd ((nI_leI (a := N) (b := i) (by omega) (by omega)).mp q) (by omega)) ?_
      refine hV.aload_n 2 dJ7_fill_53178_10 rfl ?_
      refine hV.iload_n 1 dJ7_fill_53178_11 rfl ?_
      refine hV.iload_n 3 dJ7_fill_53178_12 rfl ?_
      refine hV.iast (j := i) dJ7_fill_53178_13 zput_at (zix_nI (by omega)) (by omega) zput_zput ?_
      refine hV.iinc 1 (v := nI (i + 1)) (ls2 := [(2, .int (nI (i + 1))), (3, .int (nI N)), (0, .ref a), (1, .int v)]) dJ7_fill_53178_14 rfl (nI_1 _) (by decide) rfl ?_
      refine hV.goto (tgt := 5) dJ7_fill_53178_17 (by decide) ?_
      refine hV.pick [1, 0, 2, 3] (ls2 := [(3, .int (nI N)), (2, .int (nI (i + 1))), (0, .ref a), (1, .int v)]) rfl ?_
      refine zHeap (h2 := zput h a (some (.inl (N, .inl (filF f (i + 1) v))))) (by rw [filF_s]) ?_
      exact ih (i + 1) (by omega)
  exact loop (N) 0 (by omega)

set_option maxRecDepth 100000 in
set_option maxHeartbeats 4000000 in
theorem c_X2_countRow {l : Launch} {D : va_G} {base : Nat} (G : l.stackTraces = false) {h : zH} {n : Nat} {b q : Nat} {f : Nat → Int32} {π : zB} (hq : q < b ∨ b + 3 < q) (hpins : h q = some (.inl (56, .inl f))) {r : Nat} (hr : r < 8) :
    zCt l D base 2 yX2_countRow w_X2_countRow [.ref b, .ref q, .int (nI r)] (setP h b π) n 0 0 (zR none (setP h b (rowP f r π)) n) := by
  refine zCt.of G (by decide) (Nat.le_of_ble_eq_true rfl) (fun Sx V X hV hE hX => ?_)
  show V 0 [(0, .ref b), (1, .ref q), (2, .int (nI r))] [] (setP h b π) n 0 0
  refine hV.aload_n 0 dX2_countRow_0 rfl ?_
  refine hV.getf dX2_countRow_1 fl_X2_18 P_o rfl ?_
  refine hV.iconst (v := 0) dX2_countRow_4 (by decide) ?_
  refine hV.callS1 (rest := []) dX2_countRow_5 (c_J7_fill_53178 G (v := 0) P_a2 (by decide)) my_J7_fill_53178 ks_X2_21 rfl rfl (Nat.le_of_ble_eq_true rfl) (Nat.le_of_ble_eq_true rfl) (Nat.le_of_ble_eq_true rfl) (Nat.le_of_ble_eq_true rfl) (Nat.le_of_ble_eq_true rfl) (st2 := []) (k2 := 0) (g2 := 0) rfl rfl rfl ?_
  refine zHeap (h2 := setP h b (sa π 2 (filF (π 2) 7 0))) P_q2 ?_
  refine hV.iconst (v := 0) dX2_countRow_8 (by decide) ?_
  refine hV.istore_n (ls2 := [(3, .int 0), (0, .ref b), (1, .ref q), (2, .int (nI r))]) dX2_countRow_9 (by decide) rfl ?_
  have loop : ∀ (k c : Nat) (x : Nat → Int32), c + k = 7 → (x = rowN f (π 0) r (filF (π 2) 7 0) c) → V 10 [(3, .int (nI c)), (0, .ref b), (1, .ref q), (2, .int (nI r))] [] (setP h b (sa π 2 x)) n 0 0 := by
    intro k
    induction k with
    | zero =>
      intro c x hc he
      refine hV.iload_n 0 dX2_countRow_10 rfl ?_
      refine hV.bipush (v := 7) dX2_countRow_11 (by decide) ?_
      refine hV.icmp_ge_t (tgt := 80) dX2_countRow_13 (by decide) ((nI_leI (a := 7) (b := c) (by omega) (by omega)).mpr (by omega)) ?_
      refine hV.aload_n 1 dX2_countRow_80 rfl ?_
      refine hV.getf dX2_countRow_81 fl_X2_18 P_o rfl ?_
      refine hV.iconst (v := 0) dX2_countRow_84 (by decide) ?_
      refine hV.aload_n 1 dX2_countRow_85 rfl ?_
      refine hV.getf dX2_countRow_86 fl_X2_9 P_o rfl ?_
      refine hV.iconst (v := 0) dX2_countRow_89 (by decide) ?_
      refine hV.bipush (v := 7) dX2_countRow_90 (by decide) ?_
      refine hV.copyi dX2_countRow_92 ka_X2_34 P_a2 P_a0 (j := 7) ⟨by decide, by decide⟩ (by decide) (by decide) (by decide) (by decide) (by decide) P_q0 ?_
      exact hE.2.2.2 dX2_countRow_95 rfl (by decide) (by decide) (zRv (by have e : c = 7 := (by omega); subst e; rw [he]; rfl) rfl)
    | succ k ih =>
      intro c x hc he
      refine hV.iload_n 0 dX2_countRow_10 rfl ?_
      refine hV.bipush (v := 7) dX2_countRow_11 (by decide) ?_
      refine hV.icmp_ge_f (tgt := 80) dX2_countRow_13 (by decide) (fun q => absurd ((nI_leI (a := 7) (b := c) (by omega) (by omega)).mp q) (by omega)) ?_
      refine hV.aload_n 2 dX2_countRow_16 rfl ?_
      refine hV.iload_n 3 dX2_countRow_17 rfl ?_
      refine hV.bipush (v := 7) dX2_countRow_18 (by decide) ?_
      refine hV.imulN (a := r) (b := 7) dX2_countRow_20 ?_
      refine hV.iload_n 0 dX2_countRow_21 rfl ?_
      refine hV.iaddN (a := r * 7) (b := c) dX2_countRow_22 ?_
      refine hV.iald (j := (r * 7) + c) dX2_countRow_23 ((zobj_out hq).trans hpins) (zix_nI (by omega)) (by omega) ?_
      refine hV.istore (ls2 := [(4, .int (f ((r * 7) + c))), (3, .int (nI c)), (0, .ref b), (1, .ref q), (2, .int (nI r))]) dX2_countRow_24 (by decide) rfl ?_
      refine hV.iload 0 dX2_countRow_26 rfl ?_
      by_cases c28_1 : 0 < (f ((r * 7) + c))
      · refine hV.if_gt_t (tgt := 50) dX2_countRow_28 (by decide) c28_1 ?_
        refine hV.iload 0 dX2_countRow_50 rfl ?_
        by_cases c52_2 : (f ((r * 7) + c)) < 0
        · refine hV.if_lt_t (tgt := 74) dX2_countRow_52 (by decide) c52_2 ?_
          refine hV.iinc 1 (v := nI (c + 1)) (ls2 := [(3, .int (nI (c + 1))), (4, .int (f ((r * 7) + c))), (0, .ref b), (1, .ref q), (2, .int (nI r))]) dX2_countRow_74 rfl (nI_1 _) (by decide) rfl ?_
          refine hV.goto (tgt := 10) dX2_countRow_77 (by decide) ?_
          refine hV.pick [0, 2, 3, 4] (ls2 := [(3, .int (nI (c + 1))), (0, .ref b), (1, .ref q), (2, .int (nI r))]) rfl ?_
          exact ih (c + 1) _ (by omega) (by simp only [rowN, ← he, c28_1, c52_2, if_true, if_false])
        · refine hV.if_lt_f (tgt := 74) dX2_countRow_52 (by decide) c52_2 ?_
          refine hV.aload_n 2 dX2_countRow_55 rfl ?_
          refine hV.getf dX2_countRow_56 fl_X2_18 P_o rfl ?_
          refine hV.iload_n 1 dX2_countRow_59 rfl ?_
          refine hV.iconst (v := 1) dX2_countRow_60 (by decide) ?_
          refine hV.callSN1 (rest := [.ref (b + 3)]) dX2_countRow_61 (c_X4_bounce G (c := c) (s := 1) (by omega) (Or.inl rfl)) my_X4_bounce ks_X2_30 rfl rfl (Nat.le_of_ble_eq_true rfl) (Nat.le_of_ble_eq_true rfl) (Nat.le_of_ble_eq_true rfl) (Nat.le_of_ble_eq_true rfl) (Nat.le_of_ble_eq_true rfl) (st2 := [.int (nI (bnc c 1)), .ref (b + 3)]) (k2 := 0) (g2 := 0) rfl rfl rfl ?_
          have hbn3 := bnc_lt (c := c) (s := 1) (by omega)
          refine hV.dup2 dX2_countRow_64 rfl rfl ?_
          refine hV.iald (j := bnc c 1) dX2_countRow_65 P_a2 (zix_nI (by omega)) (by omega) ?_
          refine zTop (v := x (bnc c 1)) rfl ?_
          refine hV.aload_n 2 dX2_countRow_66 rfl ?_
          refine hV.getf dX2_countRow_67 fl_X2_9 P_o rfl ?_
          refine hV.iload_n 1 dX2_countRow_70 rfl ?_
          refine hV.iald (j := c) dX2_countRow_71 P_a0 (zix_nI (by omega)) (by omega) ?_
          refine zTop (v := π 0 c) rfl ?_
          refine hV.iadd dX2_countRow_72 ?_
          refine hV.iast (j := bnc c 1) dX2_countRow_73 P_a2 (zix_nI (by omega)) (by omega) P_p2 ?_
          refine zHeap (h2 := setP h b (sa π 2 (va_up x (bnc c 1) ((x (bnc c 1)) + (π 0 c))))) (by rw [up2_sa, sa_sa]; rfl) ?_
          refine hV.iinc 1 (v := nI (c + 1)) (ls2 := [(3, .int (nI (c + 1))), (4, .int (f ((r * 7) + c))), (0, .ref b), (1, .ref q), (2, .int (nI r))]) dX2_countRow_74 rfl (nI_1 _) (by decide) rfl ?_
          refine hV.goto (tgt := 10) dX2_countRow_77 (by decide) ?_
          refine hV.pick [0, 2, 3, 4] (ls2 := [(3, .int (nI (c + 1))), (0, .ref b), (1, .ref q), (2, .int (nI r))]) rfl ?_
          exact ih (c + 1) _ (by omega) (by simp only [rowN, ← he, c28_1, c52_2, if_true, if_false])
      · refine hV.if_gt_f (tgt := 50) dX2_countRow_28 (by decide) c28_1 ?_
        refine hV.aload_n 2 dX2_countRow_31 rfl ?_
        refine hV.getf dX2_countRow_32 fl_X2_18 P_o rfl ?_
        refine hV.iload_n 1 dX2_countRow_35 rfl ?_
        refine hV.iconst (v := (-1)) dX2_countRow_36 (by decide) ?_
        refine hV.callSN1 (rest := [.ref (b + 3)]) dX2_countRow_37 (c_X4_bounce G (c := c) (s := (-1)) (by omega) (Or.inr rfl)) my_X4_bounce ks_X2_30 rfl rfl (Nat.le_of_ble_eq_true rfl) (Nat.le_of_ble_eq_true rfl) (Nat.le_of_ble_eq_true rfl) (Nat.le_of_ble_eq_true rfl) (Nat.le_of_ble_eq_true rfl) (st2 := [.int (nI (bnc c (-1))), .ref (b + 3)]) (k2 := 0) (g2 := 0) rfl rfl rfl ?_
        have hbn4 := bnc_lt (c := c) (s := (-1)) (by omega)
        refine hV.dup2 dX2_countRow_40 rfl rfl ?_
        refine hV.iald (j := bnc c (-1)) dX2_countRow_41 P_a2 (zix_nI (by omega)) (by omega) ?_
        refine zTop (v := x (bnc c (-1))) rfl ?_
        refine hV.aload_n 2 dX2_countRow_42 rfl ?_
        refine hV.getf dX2_countRow_43 fl_X2_9 P_o rfl ?_
        refine hV.iload_n 1 dX2_countRow_46 rfl ?_
        refine hV.iald (j := c) dX2_countRow_47 P_a0 (zix_nI (by omega)) (by omega) ?_
        refine zTop (v := π 0 c) rfl ?_
        refine hV.iadd dX2_countRow_48 ?_
        refine hV.iast (j := bnc c (-1)) dX2_countRow_49 P_a2 (zix_nI (by omega)) (by omega) P_p2 ?_
        refine zHeap (h2 := setP h b (sa π 2 (va_up x (bnc c (-1)) ((x (bnc c (-1))) + (π 0 c))))) (by rw [up2_sa, sa_sa]; rfl) ?_
        refine hV.iload 0 dX2_countRow_50 rfl ?_
        by_cases c52_5 : (f ((r * 7) + c)) < 0
        · refine hV.if_lt_t (tgt := 74) dX2_countRow_52 (by decide) c52_5 ?_
          refine hV.iinc 1 (v := nI (c + 1)) (ls2 := [(3, .int (nI (c + 1))), (4, .int (f ((r * 7) + c))), (0, .ref b), (1, .ref q), (2, .int (nI r))]) dX2_countRow_74 rfl (nI_1 _) (by decide) rfl ?_
          refine hV.goto (tgt := 10) dX2_countRow_77 (by decide) ?_
          refine hV.pick [0, 2, 3, 4] (ls2 := [(3, .int (nI (c + 1))), (0, .ref b), (1, .ref q), (2, .int (nI r))]) rfl ?_
          exact ih (c + 1) _ (by omega) (by simp only [rowN, ← he, c28_1, c52_5, if_true, if_false])
        · refine hV.if_lt_f (tgt := 74) dX2_countRow_52 (by decide) c52_5 ?_
          refine hV.aload_n 2 dX2_countRow_55 rfl ?_
          refine hV.getf dX2_countRow_56 fl_X2_18 P_o rfl ?_
          refine hV.iload_n 1 dX2_countRow_59 rfl ?_
          refine hV.iconst (v := 1) dX2_countRow_60 (by decide) ?_
          refine hV.callSN1 (rest := [.ref (b + 3)]) dX2_countRow_61 (c_X4_bounce G (c := c) (s := 1) (by omega) (Or.inl rfl)) my_X4_bounce ks_X2_30 rfl rfl (Nat.le_of_ble_eq_true rfl) (Nat.le_of_ble_eq_true rfl) (Nat.le_of_ble_eq_true rfl) (Nat.le_of_ble_eq_true rfl) (Nat.le_of_ble_eq_true rfl) (st2 := [.int (nI (bnc c 1)), .ref (b + 3)]) (k2 := 0) (g2 := 0) rfl rfl rfl ?_
          have hbn6 := bnc_lt (c := c) (s := 1) (by omega)
          refine hV.dup2 dX2_countRow_64 rfl rfl ?_
          refine hV.iald (j := bnc c 1) dX2_countRow_65 P_a2 (zix_nI (by omega)) (by omega) ?_
          refine zTop (v := (va_up x (bnc c (-1)) ((x (bnc c (-1))) + (π 0 c))) (bnc c 1)) rfl ?_
          refine hV.aload_n 2 dX2_countRow_66 rfl ?_
          refine hV.getf dX2_countRow_67 fl_X2_9 P_o rfl ?_
          refine hV.iload_n 1 dX2_countRow_70 rfl ?_
          refine hV.iald (j := c) dX2_countRow_71 P_a0 (zix_nI (by omega)) (by omega) ?_
          refine zTop (v := π 0 c) rfl ?_
          refine hV.iadd dX2_countRow_72 ?_
          refine hV.iast (j := bnc c 1) dX2_countRow_73 P_a2 (zix_nI (by omega)) (by omega) P_p2 ?_
          refine zHeap (h2 := setP h b (sa π 2 (va_up (va_up x (bnc c (-1)) ((x (bnc c (-1))) + (π 0 c))) (bnc c 1) (((va_up x (bnc c (-1)) ((x (bnc c (-1))) + (π 0 c))) (bnc c 1)) + (π 0 c))))) (by rw [up2_sa, sa_sa]; rfl) ?_
          refine hV.iinc 1 (v := nI (c + 1)) (ls2 := [(3, .int (nI (c + 1))), (4, .int (f ((r * 7) + c))), (0, .ref b), (1, .ref q), (2, .int (nI r))]) dX2_countRow_74 rfl (nI_1 _) (by decide) rfl ?_
          refine hV.goto (tgt := 10) dX2_countRow_77 (by decide) ?_
          refine hV.pick [0, 2, 3, 4] (ls2 := [(3, .int (nI (c + 1))), (0, .ref b), (1, .ref q), (2, .int (nI r))]) rfl ?_
          exact ih (c + 1) _ (by omega) (by simp only [rowN, ← he, c28_1, c52_5, if_true, if_false])
  exact loop (7) 0 _ (by omega) rfl

set_option maxRecDepth 100000 in
set_option maxHeartbeats 4000000 in
theorem c_X2_countByRows {l : Launch} {D : va_G} {base : Nat} (G : l.stackTraces = false) {h : zH} {n : Nat} {b q : Nat} {f : Nat → Int32} {π : zB} (hq : q < b ∨ b + 3 < q) (hpins : h q = some (.inl (56, .inl f))) {c : Nat} (hc : c < 7) :
    zCt l D base 3 yX2_countByRows w_X2_countByRows [.ref b, .ref q, .int (nI c)] (setP h b π) n 0 0 (zR none (setP h b (cbrP f c π)) n) := by
  refine zCt.of G (by decide) (Nat.le_of_ble_eq_true rfl) (fun Sx V X hV hE hX => ?_)
  show V 0 [(0, .ref b), (1, .ref q), (2, .int (nI c))] [] (setP h b π) n 0 0
  refine hV.aload_n 0 dX2_countByRows_0 rfl ?_
  refine hV.getf dX2_countByRows_1 fl_X2_9 P_o rfl ?_
  refine hV.iconst (v := 0) dX2_countByRows_4 (by decide) ?_
  refine hV.callS1 (rest := []) dX2_countByRows_5 (c_J7_fill_53178 G (v := 0) P_a0 (by decide)) my_J7_fill_53178 ks_X2_21 rfl rfl (Nat.le_of_ble_eq_true rfl) (Nat.le_of_ble_eq_true rfl) (Nat.le_of_ble_eq_true rfl) (Nat.le_of_ble_eq_true rfl) (Nat.le_of_ble_eq_true rfl) (st2 := []) (k2 := 0) (g2 := 0) rfl rfl rfl ?_
  refine zHeap (h2 := setP h b (sa π 0 (filF (π 0) 7 0))) P_q0 ?_
  refine hV.aload_n 0 dX2_countByRows_8 rfl ?_
  refine hV.getf dX2_countByRows_9 fl_X2_9 P_o rfl ?_
  refine hV.iload_n 2 dX2_countByRows_12 rfl ?_
  refine hV.iconst (v := 1) dX2_countByRows_13 (by decide) ?_
  refine hV.iast (j := c) dX2_countByRows_14 P_a0 (zix_nI (by omega)) (by omega) P_p0 ?_
  refine zHeap (h2 := setP h b (sa π 0 (va_up (filF (π 0) 7 0) c 1))) (by rw [up2_sa, sa_sa]; rfl) ?_
  refine hV.iconst (v := 0) dX2_countByRows_15 (by decide) ?_
  refine hV.istore_n (ls2 := [(3, .int 0), (0, .ref b), (1, .ref q), (2, .int (nI c))]) dX2_countByRows_16 (by decide) rfl ?_
  obtain ⟨π0, hπ0⟩ : ∃ z : zB, z = sa π 0 (va_up (filF (π 0) 7 0) c 1) := ⟨_, rfl⟩
  rw [← hπ0]
  have loop : ∀ (k r : Nat) , r + k = 8 → V 17 [(3, .int (nI r)), (0, .ref b), (1, .ref q), (2, .int (nI c))] [] (setP h b (cbrN f π0 r)) n 0 0 := by
    intro k
    induction k with
    | zero =>
      intro r  hr 
      refine hV.iload_n 0 dX2_countByRows_17 rfl ?_
      refine hV.bipush (v := 8) dX2_countByRows_18 (by decide) ?_
      refine hV.icmp_ge_t (tgt := 35) dX2_countByRows_20 (by decide) ((nI_leI (a := 8) (b := r) (by omega) (by omega)).mpr (by omega)) ?_
      exact hE.2.2.2 dX2_countByRows_35 rfl (by decide) (by decide) (zRv (by have e : r = 8 := (by omega); subst e; rw [hπ0]; rfl) rfl)
    | succ k ih =>
      intro r  hr 
      refine hV.iload_n 0 dX2_countByRows_17 rfl ?_
      refine hV.bipush (v := 8) dX2_countByRows_18 (by decide) ?_
      refine hV.icmp_ge_f (tgt := 35) dX2_countByRows_20 (by decide) (fun q => absurd ((nI_leI (a := 8) (b := r) (by omega) (by omega)).mp q) (by omega)) ?_
      refine hV.aload_n 1 dX2_countByRows_23 rfl ?_
      refine hV.aload_n 2 dX2_countByRows_24 rfl ?_
      refine hV.iload_n 0 dX2_countByRows_25 rfl ?_
      refine hV.callV1 (rest := []) dX2_countByRows_26 (c_X2_countRow G (r := r) hq hpins (by omega)) my_X2_countRow kv_X2_27 P_o rfl rfl rfl (Nat.le_of_ble_eq_true rfl) (Nat.le_of_ble_eq_true rfl) (Nat.le_of_ble_eq_true rfl) (Nat.le_of_ble_eq_true rfl) (Nat.le_of_ble_eq_true rfl) (st2 := []) (k2 := 0) (g2 := 0) rfl rfl rfl ?_
      refine hV.iinc 0 (v := nI (r + 1)) (ls2 := [(3, .int (nI (r + 1))), (0, .ref b), (1, .ref q), (2, .int (nI c))]) dX2_countByRows_29 rfl (nI_1 _) (by decide) rfl ?_
      refine hV.goto (tgt := 17) dX2_countByRows_32 (by decide) ?_
      exact ih (r + 1) (by omega)
  exact loop (8) 0 (by omega)

set_option maxRecDepth 100000 in
set_option maxHeartbeats 4000000 in
theorem c_goOn_0 {l : Launch} {D : va_G} {base : Nat} (G : l.stackTraces = false) {h : zH} {n : Nat} {a q : Nat} {f e : Nat → Int32} {c : Nat} (hpins : h q = some (.inl (56, .inl f))) (ha : h a = some (.inl (7, .inl e))) (hqa : q ≠ a) (hc : c < 7) :
    zCt l D base 2 yX2_goOn w_X2_goOn [.ref q, .int 8, .int (nI c), .ref a] (h) n 0 0 (zR none (zput h a (some (.inl (7, .inl (goF f 0 c e))))) n) := by
  refine zCt.of G (by decide) (Nat.le_of_ble_eq_true rfl) (fun Sx V X hV hE hX => ?_)
  show V 0 [(0, .ref q), (1, .int 8), (2, .int (nI c)), (3, .ref a)] [] (h) n 0 0
  refine hV.iload_n 1 dX2_goOn_0 rfl ?_
  refine hV.bipush (v := 8) dX2_goOn_1 (by decide) ?_
  refine hV.icmp_lt_f (tgt := 14) dX2_goOn_3 (by decide) (by decide) ?_
  refine hV.aload_n 3 dX2_goOn_6 rfl ?_
  refine hV.iload_n 2 dX2_goOn_7 rfl ?_
  refine hV.dup2 dX2_goOn_8 rfl rfl ?_
  refine hV.iald (j := c) dX2_goOn_9 ha (zix_nI (by omega)) (by omega) ?_
  refine hV.iconst (v := 1) dX2_goOn_10 (by decide) ?_
  refine hV.iadd dX2_goOn_11 ?_
  refine hV.iast (j := c) dX2_goOn_12 ha (zix_nI (by omega)) (by omega) rfl ?_
  exact hE.2.2.2 dX2_goOn_13 rfl (by decide) (by decide) (zRv rfl rfl)

set_option maxRecDepth 100000 in
set_option maxHeartbeats 4000000 in
theorem c_goOn_1 {l : Launch} {D : va_G} {base : Nat} (G : l.stackTraces = false) {h : zH} {n : Nat} {a q : Nat} {f e : Nat → Int32} {c : Nat} (hpins : h q = some (.inl (56, .inl f))) (ha : h a = some (.inl (7, .inl e))) (hqa : q ≠ a) (hc : c < 7) :
    zCt l D base 3 yX2_goOn w_X2_goOn [.ref q, .int 7, .int (nI c), .ref a] (h) n 0 0 (zR none (zput h a (some (.inl (7, .inl (goF f 1 c e))))) n) := by
  refine zCt.of G (by decide) (Nat.le_of_ble_eq_true rfl) (fun Sx V X hV hE hX => ?_)
  show V 0 [(0, .ref q), (1, .int 7), (2, .int (nI c)), (3, .ref a)] [] (h) n 0 0
  refine hV.iload_n 1 dX2_goOn_0 rfl ?_
  refine hV.bipush (v := 8) dX2_goOn_1 (by decide) ?_
  refine hV.icmp_lt_t (tgt := 14) dX2_goOn_3 (by decide) (by decide) ?_
  refine hV.aload_n 0 dX2_goOn_14 rfl ?_
  refine hV.iload_n 1 dX2_goOn_15 rfl ?_
  refine hV.bipush (v := 7) dX2_goOn_16 (by decide) ?_
  refine hV.imul dX2_goOn_18 ?_
  refine zTop (v := 49) (by decide) ?_
  refine hV.iload_n 2 dX2_goOn_19 rfl ?_
  refine hV.iaddN (a := 49) (b := c) dX2_goOn_20 ?_
  refine zTop (v := nI (49 + c)) rfl ?_
  refine hV.iald (j := 49 + c) dX2_goOn_21 hpins (zix_nI (by omega)) (by omega) ?_
  refine hV.istore (ls2 := [(4, .int (f (49 + c))), (0, .ref q), (1, .int 7), (2, .int (nI c)), (3, .ref a)]) dX2_goOn_22 (by decide) rfl ?_
  refine hV.iload 0 dX2_goOn_24 rfl ?_
  by_cases c26_1 : 0 < (f (49 + c))
  · refine hV.if_gt_t (tgt := 42) dX2_goOn_26 (by decide) c26_1 ?_
    refine hV.iload 0 dX2_goOn_42 rfl ?_
    by_cases c44_2 : (f (49 + c)) < 0
    · refine hV.if_lt_t (tgt := 60) dX2_goOn_44 (by decide) c44_2 ?_
      exact hE.2.2.2 dX2_goOn_60 rfl (by decide) (by decide) (zRv (zput_self (ha.trans (by rw [goF_c1 (d := 0) c26_1 c44_2]))).symm rfl)
    · refine hV.if_lt_f (tgt := 60) dX2_goOn_44 (by decide) c44_2 ?_
      refine hV.aload_n 1 dX2_goOn_47 rfl ?_
      refine hV.iload_n 2 dX2_goOn_48 rfl ?_
      refine hV.iconst (v := 1) dX2_goOn_49 (by decide) ?_
      refine hV.iadd dX2_goOn_50 ?_
      refine zTop (v := 8) (by decide) ?_
      refine hV.iload_n 3 dX2_goOn_51 rfl ?_
      refine hV.iconst (v := 1) dX2_goOn_52 (by decide) ?_
      refine hV.callSN1 (rest := [.int 8, .ref q]) dX2_goOn_53 (c_X4_bounce G (c := c) (s := 1) (by omega) (Or.inl rfl)) my_X4_bounce ks_X2_30 rfl rfl (Nat.le_of_ble_eq_true rfl) (Nat.le_of_ble_eq_true rfl) (Nat.le_of_ble_eq_true rfl) (Nat.le_of_ble_eq_true rfl) (Nat.le_of_ble_eq_true rfl) (st2 := [.int (nI (bnc c 1)), .int 8, .ref q]) (k2 := 0) (g2 := 0) rfl rfl rfl ?_
      have hbn3 := bnc_lt (c := c) (s := 1) (by omega)
      refine hV.aload_n 4 dX2_goOn_56 rfl ?_
      refine hV.callS1 (rest := []) dX2_goOn_57 (c_goOn_0 G hpins ha hqa (bnc_lt hc)) my_X2_goOn ks_X2_40 rfl rfl (Nat.le_of_ble_eq_true rfl) (Nat.le_of_ble_eq_true rfl) (Nat.le_of_ble_eq_true rfl) (Nat.le_of_ble_eq_true rfl) (Nat.le_of_ble_eq_true rfl) (st2 := []) (k2 := 0) (g2 := 0) rfl rfl rfl ?_
      refine zHeap (h2 := zput h a (some (.inl (7, .inl (goF f 0 (bnc c 1) e))))) rfl ?_
      exact hE.2.2.2 dX2_goOn_60 rfl (by decide) (by decide) (zRv (congrArg (fun z => zput h a (some (.inl (7, .inl z)))) (goF_c3 (d := 0) c26_1 c44_2).symm) rfl)
  · refine hV.if_gt_f (tgt := 42) dX2_goOn_26 (by decide) c26_1 ?_
    refine hV.aload_n 1 dX2_goOn_29 rfl ?_
    refine hV.iload_n 2 dX2_goOn_30 rfl ?_
    refine hV.iconst (v := 1) dX2_goOn_31 (by decide) ?_
    refine hV.iadd dX2_goOn_32 ?_
    refine zTop (v := 8) (by decide) ?_
    refine hV.iload_n 3 dX2_goOn_33 rfl ?_
    refine hV.iconst (v := (-1)) dX2_goOn_34 (by decide) ?_
    refine hV.callSN1 (rest := [.int 8, .ref q]) dX2_goOn_35 (c_X4_bounce G (c := c) (s := (-1)) (by omega) (Or.inr rfl)) my_X4_bounce ks_X2_30 rfl rfl (Nat.le_of_ble_eq_true rfl) (Nat.le_of_ble_eq_true rfl) (Nat.le_of_ble_eq_true rfl) (Nat.le_of_ble_eq_true rfl) (Nat.le_of_ble_eq_true rfl) (st2 := [.int (nI (bnc c (-1))), .int 8, .ref q]) (k2 := 0) (g2 := 0) rfl rfl rfl ?_
    have hbn4 := bnc_lt (c := c) (s := (-1)) (by omega)
    refine hV.aload_n 4 dX2_goOn_38 rfl ?_
    refine hV.callS1 (rest := []) dX2_goOn_39 (c_goOn_0 G hpins ha hqa (bnc_lt hc)) my_X2_goOn ks_X2_40 rfl rfl (Nat.le_of_ble_eq_true rfl) (Nat.le_of_ble_eq_true rfl) (Nat.le_of_ble_eq_true rfl) (Nat.le_of_ble_eq_true rfl) (Nat.le_of_ble_eq_true rfl) (st2 := []) (k2 := 0) (g2 := 0) rfl rfl rfl ?_
    refine zHeap (h2 := zput h a (some (.inl (7, .inl (goF f 0 (bnc c (-1)) e))))) rfl ?_
    refine hV.iload 0 dX2_goOn_42 rfl ?_
    by_cases c44_5 : (f (49 + c)) < 0
    · refine hV.if_lt_t (tgt := 60) dX2_goOn_44 (by decide) c44_5 ?_
      exact hE.2.2.2 dX2_goOn_60 rfl (by decide) (by decide) (zRv (congrArg (fun z => zput h a (some (.inl (7, .inl z)))) (goF_c2 (d := 0) c26_1 c44_5).symm) rfl)
    · refine hV.if_lt_f (tgt := 60) dX2_goOn_44 (by decide) c44_5 ?_
      refine hV.aload_n 1 dX2_goOn_47 rfl ?_
      refine hV.iload_n 2 dX2_goOn_48 rfl ?_
      refine hV.iconst (v := 1) dX2_goOn_49 (by decide) ?_
      refine hV.iadd dX2_goOn_50 ?_
      refine zTop (v := 8) (by decide) ?_
      refine hV.iload_n 3 dX2_goOn_51 rfl ?_
      refine hV.iconst (v := 1) dX2_goOn_52 (by decide) ?_
      refine hV.callSN1 (rest := [.int 8, .ref q]) dX2_goOn_53 (c_X4_bounce G (c := c) (s := 1) (by omega) (Or.inl rfl)) my_X4_bounce ks_X2_30 rfl rfl (Nat.le_of_ble_eq_true rfl) (Nat.le_of_ble_eq_true rfl) (Nat.le_of_ble_eq_true rfl) (Nat.le_of_ble_eq_true rfl) (Nat.le_of_ble_eq_true rfl) (st2 := [.int (nI (bnc c 1)), .int 8, .ref q]) (k2 := 0) (g2 := 0) rfl rfl rfl ?_
      have hbn6 := bnc_lt (c := c) (s := 1) (by omega)
      refine hV.aload_n 4 dX2_goOn_56 rfl ?_
      refine hV.callS1 (rest := []) dX2_goOn_57 (c_goOn_0 G ((zput_ne hqa).trans hpins) zput_at hqa (bnc_lt hc)) my_X2_goOn ks_X2_40 rfl rfl (Nat.le_of_ble_eq_true rfl) (Nat.le_of_ble_eq_true rfl) (Nat.le_of_ble_eq_true rfl) (Nat.le_of_ble_eq_true rfl) (Nat.le_of_ble_eq_true rfl) (st2 := []) (k2 := 0) (g2 := 0) rfl rfl rfl ?_
      refine zHeap (h2 := zput h a (some (.inl (7, .inl (goF f 0 (bnc c 1) (goF f 0 (bnc c (-1)) e)))))) zput_zput ?_
      exact hE.2.2.2 dX2_goOn_60 rfl (by decide) (by decide) (zRv (congrArg (fun z => zput h a (some (.inl (7, .inl z)))) (goF_c4 (d := 0) c26_1 c44_5).symm) rfl)

set_option maxRecDepth 100000 in
set_option maxHeartbeats 4000000 in
theorem c_goOn_2 {l : Launch} {D : va_G} {base : Nat} (G : l.stackTraces = false) {h : zH} {n : Nat} {a q : Nat} {f e : Nat → Int32} {c : Nat} (hpins : h q = some (.inl (56, .inl f))) (ha : h a = some (.inl (7, .inl e))) (hqa : q ≠ a) (hc : c < 7) :
    zCt l D base 4 yX2_goOn w_X2_goOn [.ref q, .int 6, .int (nI c), .ref a] (h) n 0 0 (zR none (zput h a (some (.inl (7, .inl (goF f 2 c e))))) n) := by
  refine zCt.of G (by decide) (Nat.le_of_ble_eq_true rfl) (fun Sx V X hV hE hX => ?_)
  show V 0 [(0, .ref q), (1, .int 6), (2, .int (nI c)), (3, .ref a)] [] (h) n 0 0
  refine hV.iload_n 1 dX2_goOn_0 rfl ?_
  refine hV.bipush (v := 8) dX2_goOn_1 (by decide) ?_
  refine hV.icmp_lt_t (tgt := 14) dX2_goOn_3 (by decide) (by decide) ?_
  refine hV.aload_n 0 dX2_goOn_14 rfl ?_
  refine hV.iload_n 1 dX2_goOn_15 rfl ?_
  refine hV.bipush (v := 7) dX2_goOn_16 (by decide) ?_
  refine hV.imul dX2_goOn_18 ?_
  refine zTop (v := 42) (by decide) ?_
  refine hV.iload_n 2 dX2_goOn_19 rfl ?_
  refine hV.iaddN (a := 42) (b := c) dX2_goOn_20 ?_
  refine zTop (v := nI (42 + c)) rfl ?_
  refine hV.iald (j := 42 + c) dX2_goOn_21 hpins (zix_nI (by omega)) (by omega) ?_
  refine hV.istore (ls2 := [(4, .int (f (42 + c))), (0, .ref q), (1, .int 6), (2, .int (nI c)), (3, .ref a)]) dX2_goOn_22 (by decide) rfl ?_
  refine hV.iload 0 dX2_goOn_24 rfl ?_
  by_cases c26_1 : 0 < (f (42 + c))
  · refine hV.if_gt_t (tgt := 42) dX2_goOn_26 (by decide) c26_1 ?_
    refine hV.iload 0 dX2_goOn_42 rfl ?_
    by_cases c44_2 : (f (42 + c)) < 0
    · refine hV.if_lt_t (tgt := 60) dX2_goOn_44 (by decide) c44_2 ?_
      exact hE.2.2.2 dX2_goOn_60 rfl (by decide) (by decide) (zRv (zput_self (ha.trans (by rw [goF_c1 (d := 1) c26_1 c44_2]))).symm rfl)
    · refine hV.if_lt_f (tgt := 60) dX2_goOn_44 (by decide) c44_2 ?_
      refine hV.aload_n 1 dX2_goOn_47 rfl ?_
      refine hV.iload_n 2 dX2_goOn_48 rfl ?_
      refine hV.iconst (v := 1) dX2_goOn_49 (by decide) ?_
      refine hV.iadd dX2_goOn_50 ?_
      refine zTop (v := 7) (by decide) ?_
      refine hV.iload_n 3 dX2_goOn_51 rfl ?_
      refine hV.iconst (v := 1) dX2_goOn_52 (by decide) ?_
      refine hV.callSN1 (rest := [.int 7, .ref q]) dX2_goOn_53 (c_X4_bounce G (c := c) (s := 1) (by omega) (Or.inl rfl)) my_X4_bounce ks_X2_30 rfl rfl (Nat.le_of_ble_eq_true rfl) (Nat.le_of_ble_eq_true rfl) (Nat.le_of_ble_eq_true rfl) (Nat.le_of_ble_eq_true rfl) (Nat.le_of_ble_eq_true rfl) (st2 := [.int (nI (bnc c 1)), .int 7, .ref q]) (k2 := 0) (g2 := 0) rfl rfl rfl ?_
      have hbn3 := bnc_lt (c := c) (s := 1) (by omega)
      refine hV.aload_n 4 dX2_goOn_56 rfl ?_
      refine hV.callS1 (rest := []) dX2_goOn_57 (c_goOn_1 G hpins ha hqa (bnc_lt hc)) my_X2_goOn ks_X2_40 rfl rfl (Nat.le_of_ble_eq_true rfl) (Nat.le_of_ble_eq_true rfl) (Nat.le_of_ble_eq_true rfl) (Nat.le_of_ble_eq_true rfl) (Nat.le_of_ble_eq_true rfl) (st2 := []) (k2 := 0) (g2 := 0) rfl rfl rfl ?_
      refine zHeap (h2 := zput h a (some (.inl (7, .inl (goF f 1 (bnc c 1) e))))) rfl ?_
      exact hE.2.2.2 dX2_goOn_60 rfl (by decide) (by decide) (zRv (congrArg (fun z => zput h a (some (.inl (7, .inl z)))) (goF_c3 (d := 1) c26_1 c44_2).symm) rfl)
  · refine hV.if_gt_f (tgt := 42) dX2_goOn_26 (by decide) c26_1 ?_
    refine hV.aload_n 1 dX2_goOn_29 rfl ?_
    refine hV.iload_n 2 dX2_goOn_30 rfl ?_
    refine hV.iconst (v := 1) dX2_goOn_31 (by decide) ?_
    refine hV.iadd dX2_goOn_32 ?_
    refine zTop (v := 7) (by decide) ?_
    refine hV.iload_n 3 dX2_goOn_33 rfl ?_
    refine hV.iconst (v := (-1)) dX2_goOn_34 (by decide) ?_
    refine hV.callSN1 (rest := [.int 7, .ref q]) dX2_goOn_35 (c_X4_bounce G (c := c) (s := (-1)) (by omega) (Or.inr rfl)) my_X4_bounce ks_X2_30 rfl rfl (Nat.le_of_ble_eq_true rfl) (Nat.le_of_ble_eq_true rfl) (Nat.le_of_ble_eq_true rfl) (Nat.le_of_ble_eq_true rfl) (Nat.le_of_ble_eq_true rfl) (st2 := [.int (nI (bnc c (-1))), .int 7, .ref q]) (k2 := 0) (g2 := 0) rfl rfl rfl ?_
    have hbn4 := bnc_lt (c := c) (s := (-1)) (by omega)
    refine hV.aload_n 4 dX2_goOn_38 rfl ?_
    refine hV.callS1 (rest := []) dX2_goOn_39 (c_goOn_1 G hpins ha hqa (bnc_lt hc)) my_X2_goOn ks_X2_40 rfl rfl (Nat.le_of_ble_eq_true rfl) (Nat.le_of_ble_eq_true rfl) (Nat.le_of_ble_eq_true rfl) (Nat.le_of_ble_eq_true rfl) (Nat.le_of_ble_eq_true rfl) (st2 := []) (k2 := 0) (g2 := 0) rfl rfl rfl ?_
    refine zHeap (h2 := zput h a (some (.inl (7, .inl (goF f 1 (bnc c (-1)) e))))) rfl ?_
    refine hV.iload 0 dX2_goOn_42 rfl ?_
    by_cases c44_5 : (f (42 + c)) < 0
    · refine hV.if_lt_t (tgt := 60) dX2_goOn_44 (by decide) c44_5 ?_
      exact hE.2.2.2 dX2_goOn_60 rfl (by decide) (by decide) (zRv (congrArg (fun z => zput h a (some (.inl (7, .inl z)))) (goF_c2 (d := 1) c26_1 c44_5).symm) rfl)
    · refine hV.if_lt_f (tgt := 60) dX2_goOn_44 (by decide) c44_5 ?_
      refine hV.aload_n 1 dX2_goOn_47 rfl ?_
      refine hV.iload_n 2 dX2_goOn_48 rfl ?_
      refine hV.iconst (v := 1) dX2_goOn_49 (by decide) ?_
      refine hV.iadd dX2_goOn_50 ?_
      refine zTop (v := 7) (by decide) ?_
      refine hV.iload_n 3 dX2_goOn_51 rfl ?_
      refine hV.iconst (v := 1) dX2_goOn_52 (by decide) ?_
      refine hV.callSN1 (rest := [.int 7, .ref q]) dX2_goOn_53 (c_X4_bounce G (c := c) (s := 1) (by omega) (Or.inl rfl)) my_X4_bounce ks_X2_30 rfl rfl (Nat.le_of_ble_eq_true rfl) (Nat.le_of_ble_eq_true rfl) (Nat.le_of_ble_eq_true rfl) (Nat.le_of_ble_eq_true rfl) (Nat.le_of_ble_eq_true rfl) (st2 := [.int (nI (bnc c 1)), .int 7, .ref q]) (k2 := 0) (g2 := 0) rfl rfl rfl ?_
      have hbn6 := bnc_lt (c := c) (s := 1) (by omega)
      refine hV.aload_n 4 dX2_goOn_56 rfl ?_
      refine hV.callS1 (rest := []) dX2_goOn_57 (c_goOn_1 G ((zput_ne hqa).trans hpins) zput_at hqa (bnc_lt hc)) my_X2_goOn ks_X2_40 rfl rfl (Nat.le_of_ble_eq_true rfl) (Nat.le_of_ble_eq_true rfl) (Nat.le_of_ble_eq_true rfl) (Nat.le_of_ble_eq_true rfl) (Nat.le_of_ble_eq_true rfl) (st2 := []) (k2 := 0) (g2 := 0) rfl rfl rfl ?_
      refine zHeap (h2 := zput h a (some (.inl (7, .inl (goF f 1 (bnc c 1) (goF f 1 (bnc c (-1)) e)))))) zput_zput ?_
      exact hE.2.2.2 dX2_goOn_60 rfl (by decide) (by decide) (zRv (congrArg (fun z => zput h a (some (.inl (7, .inl z)))) (goF_c4 (d := 1) c26_1 c44_5).symm) rfl)

set_option maxRecDepth 100000 in
set_option maxHeartbeats 4000000 in
theorem c_goOn_3 {l : Launch} {D : va_G} {base : Nat} (G : l.stackTraces = false) {h : zH} {n : Nat} {a q : Nat} {f e : Nat → Int32} {c : Nat} (hpins : h q = some (.inl (56, .inl f))) (ha : h a = some (.inl (7, .inl e))) (hqa : q ≠ a) (hc : c < 7) :
    zCt l D base 5 yX2_goOn w_X2_goOn [.ref q, .int 5, .int (nI c), .ref a] (h) n 0 0 (zR none (zput h a (some (.inl (7, .inl (goF f 3 c e))))) n) := by
  refine zCt.of G (by decide) (Nat.le_of_ble_eq_true rfl) (fun Sx V X hV hE hX => ?_)
  show V 0 [(0, .ref q), (1, .int 5), (2, .int (nI c)), (3, .ref a)] [] (h) n 0 0
  refine hV.iload_n 1 dX2_goOn_0 rfl ?_
  refine hV.bipush (v := 8) dX2_goOn_1 (by decide) ?_
  refine hV.icmp_lt_t (tgt := 14) dX2_goOn_3 (by decide) (by decide) ?_
  refine hV.aload_n 0 dX2_goOn_14 rfl ?_
  refine hV.iload_n 1 dX2_goOn_15 rfl ?_
  refine hV.bipush (v := 7) dX2_goOn_16 (by decide) ?_
  refine hV.imul dX2_goOn_18 ?_
  refine zTop (v := 35) (by decide) ?_
  refine hV.iload_n 2 dX2_goOn_19 rfl ?_
  refine hV.iaddN (a := 35) (b := c) dX2_goOn_20 ?_
  refine zTop (v := nI (35 + c)) rfl ?_
  refine hV.iald (j := 35 + c) dX2_goOn_21 hpins (zix_nI (by omega)) (by omega) ?_
  refine hV.istore (ls2 := [(4, .int (f (35 + c))), (0, .ref q), (1, .int 5), (2, .int (nI c)), (3, .ref a)]) dX2_goOn_22 (by decide) rfl ?_
  refine hV.iload 0 dX2_goOn_24 rfl ?_
  by_cases c26_1 : 0 < (f (35 + c))
  · refine hV.if_gt_t (tgt := 42) dX2_goOn_26 (by decide) c26_1 ?_
    refine hV.iload 0 dX2_goOn_42 rfl ?_
    by_cases c44_2 : (f (35 + c)) < 0
    · refine hV.if_lt_t (tgt := 60) dX2_goOn_44 (by decide) c44_2 ?_
      exact hE.2.2.2 dX2_goOn_60 rfl (by decide) (by decide) (zRv (zput_self (ha.trans (by rw [goF_c1 (d := 2) c26_1 c44_2]))).symm rfl)
    · refine hV.if_lt_f (tgt := 60) dX2_goOn_44 (by decide) c44_2 ?_
      refine hV.aload_n 1 dX2_goOn_47 rfl ?_
      refine hV.iload_n 2 dX2_goOn_48 rfl ?_
      refine hV.iconst (v := 1) dX2_goOn_49 (by decide) ?_
      refine hV.iadd dX2_goOn_50 ?_
      refine zTop (v := 6) (by decide) ?_
      refine hV.iload_n 3 dX2_goOn_51 rfl ?_
      refine hV.iconst (v := 1) dX2_goOn_52 (by decide) ?_
      refine hV.callSN1 (rest := [.int 6, .ref q]) dX2_goOn_53 (c_X4_bounce G (c := c) (s := 1) (by omega) (Or.inl rfl)) my_X4_bounce ks_X2_30 rfl rfl (Nat.le_of_ble_eq_true rfl) (Nat.le_of_ble_eq_true rfl) (Nat.le_of_ble_eq_true rfl) (Nat.le_of_ble_eq_true rfl) (Nat.le_of_ble_eq_true rfl) (st2 := [.int (nI (bnc c 1)), .int 6, .ref q]) (k2 := 0) (g2 := 0) rfl rfl rfl ?_
      have hbn3 := bnc_lt (c := c) (s := 1) (by omega)
      refine hV.aload_n 4 dX2_goOn_56 rfl ?_
      refine hV.callS1 (rest := []) dX2_goOn_57 (c_goOn_2 G hpins ha hqa (bnc_lt hc)) my_X2_goOn ks_X2_40 rfl rfl (Nat.le_of_ble_eq_true rfl) (Nat.le_of_ble_eq_true rfl) (Nat.le_of_ble_eq_true rfl) (Nat.le_of_ble_eq_true rfl) (Nat.le_of_ble_eq_true rfl) (st2 := []) (k2 := 0) (g2 := 0) rfl rfl rfl ?_
      refine zHeap (h2 := zput h a (some (.inl (7, .inl (goF f 2 (bnc c 1) e))))) rfl ?_
      exact hE.2.2.2 dX2_goOn_60 rfl (by decide) (by decide) (zRv (congrArg (fun z => zput h a (some (.inl (7, .inl z)))) (goF_c3 (d := 2) c26_1 c44_2).symm) rfl)
  · refine hV.if_gt_f (tgt := 42) dX2_goOn_26 (by decide) c26_1 ?_
    refine hV.aload_n 1 dX2_goOn_29 rfl ?_
    refine hV.iload_n 2 dX2_goOn_30 rfl ?_
    refine hV.iconst (v := 1) dX2_goOn_31 (by decide) ?_
    refine hV.iadd dX2_goOn_32 ?_
    refine zTop (v := 6) (by decide) ?_
    refine hV.iload_n 3 dX2_goOn_33 rfl ?_
    refine hV.iconst (v := (-1)) dX2_goOn_34 (by decide) ?_
    refine hV.callSN1 (rest := [.int 6, .ref q]) dX2_goOn_35 (c_X4_bounce G (c := c) (s := (-1)) (by omega) (Or.inr rfl)) my_X4_bounce ks_X2_30 rfl rfl (Nat.le_of_ble_eq_true rfl) (Nat.le_of_ble_eq_true rfl) (Nat.le_of_ble_eq_true rfl) (Nat.le_of_ble_eq_true rfl) (Nat.le_of_ble_eq_true rfl) (st2 := [.int (nI (bnc c (-1))), .int 6, .ref q]) (k2 := 0) (g2 := 0) rfl rfl rfl ?_
    have hbn4 := bnc_lt (c := c) (s := (-1)) (by omega)
    refine hV.aload_n 4 dX2_goOn_38 rfl ?_
    refine hV.callS1 (rest := []) dX2_goOn_39 (c_goOn_2 G hpins ha hqa (bnc_lt hc)) my_X2_goOn ks_X2_40 rfl rfl (Nat.le_of_ble_eq_true rfl) (Nat.le_of_ble_eq_true rfl) (Nat.le_of_ble_eq_true rfl) (Nat.le_of_ble_eq_true rfl) (Nat.le_of_ble_eq_true rfl) (st2 := []) (k2 := 0) (g2 := 0) rfl rfl rfl ?_
    refine zHeap (h2 := zput h a (some (.inl (7, .inl (goF f 2 (bnc c (-1)) e))))) rfl ?_
    refine hV.iload 0 dX2_goOn_42 rfl ?_
    by_cases c44_5 : (f (35 + c)) < 0
    · refine hV.if_lt_t (tgt := 60) dX2_goOn_44 (by decide) c44_5 ?_
      exact hE.2.2.2 dX2_goOn_60 rfl (by decide) (by decide) (zRv (congrArg (fun z => zput h a (some (.inl (7, .inl z)))) (goF_c2 (d := 2) c26_1 c44_5).symm) rfl)
    · refine hV.if_lt_f (tgt := 60) dX2_goOn_44 (by decide) c44_5 ?_
      refine hV.aload_n 1 dX2_goOn_47 rfl ?_
      refine hV.iload_n 2 dX2_goOn_48 rfl ?_
      refine hV.iconst (v := 1) dX2_goOn_49 (by decide) ?_
      refine hV.iadd dX2_goOn_50 ?_
      refine zTop (v := 6) (by decide) ?_
      refine hV.iload_n 3 dX2_goOn_51 rfl ?_
      refine hV.iconst (v := 1) dX2_goOn_52 (by decide) ?_
      refine hV.callSN1 (rest := [.int 6, .ref q]) dX2_goOn_53 (c_X4_bounce G (c := c) (s := 1) (by omega) (Or.inl rfl)) my_X4_bounce ks_X2_30 rfl rfl (Nat.le_of_ble_eq_true rfl) (Nat.le_of_ble_eq_true rfl) (Nat.le_of_ble_eq_true rfl) (Nat.le_of_ble_eq_true rfl) (Nat.le_of_ble_eq_true rfl) (st2 := [.int (nI (bnc c 1)), .int 6, .ref q]) (k2 := 0) (g2 := 0) rfl rfl rfl ?_
      have hbn6 := bnc_lt (c := c) (s := 1) (by omega)
      refine hV.aload_n 4 dX2_goOn_56 rfl ?_
      refine hV.callS1 (rest := []) dX2_goOn_57 (c_goOn_2 G ((zput_ne hqa).trans hpins) zput_at hqa (bnc_lt hc)) my_X2_goOn ks_X2_40 rfl rfl (Nat.le_of_ble_eq_true rfl) (Nat.le_of_ble_eq_true rfl) (Nat.le_of_ble_eq_true rfl) (Nat.le_of_ble_eq_true rfl) (Nat.le_of_ble_eq_true rfl) (st2 := []) (k2 := 0) (g2 := 0) rfl rfl rfl ?_
      refine zHeap (h2 := zput h a (some (.inl (7, .inl (goF f 2 (bnc c 1) (goF f 2 (bnc c (-1)) e)))))) zput_zput ?_
      exact hE.2.2.2 dX2_goOn_60 rfl (by decide) (by decide) (zRv (congrArg (fun z => zput h a (some (.inl (7, .inl z)))) (goF_c4 (d := 2) c26_1 c44_5).symm) rfl)

set_option maxRecDepth 100000 in
set_option maxHeartbeats 4000000 in
theorem c_goOn_4 {l : Launch} {D : va_G} {base : Nat} (G : l.stackTraces = false) {h : zH} {n : Nat} {a q : Nat} {f e : Nat → Int32} {c : Nat} (hpins : h q = some (.inl (56, .inl f))) (ha : h a = some (.inl (7, .inl e))) (hqa : q ≠ a) (hc : c < 7) :
    zCt l D base 6 yX2_goOn w_X2_goOn [.ref q, .int 4, .int (nI c), .ref a] (h) n 0 0 (zR none (zput h a (some (.inl (7, .inl (goF f 4 c e))))) n) := by
  refine zCt.of G (by decide) (Nat.le_of_ble_eq_true rfl) (fun Sx V X hV hE hX => ?_)
  show V 0 [(0, .ref q), (1, .int 4), (2, .int (nI c)), (3, .ref a)] [] (h) n 0 0
  refine hV.iload_n 1 dX2_goOn_0 rfl ?_
  refine hV.bipush (v := 8) dX2_goOn_1 (by decide) ?_
  refine hV.icmp_lt_t (tgt := 14) dX2_goOn_3 (by decide) (by decide) ?_
  refine hV.aload_n 0 dX2_goOn_14 rfl ?_
  refine hV.iload_n 1 dX2_goOn_15 rfl ?_
  refine hV.bipush (v := 7) dX2_goOn_16 (by decide) ?_
  refine hV.imul dX2_goOn_18 ?_
  refine zTop (v := 28) (by decide) ?_
  refine hV.iload_n 2 dX2_goOn_19 rfl ?_
  refine hV.iaddN (a := 28) (b := c) dX2_goOn_20 ?_
  refine zTop (v := nI (28 + c)) rfl ?_
  refine hV.iald (j := 28 + c) dX2_goOn_21 hpins (zix_nI (by omega)) (by omega) ?_
  refine hV.istore (ls2 := [(4, .int (f (28 + c))), (0, .ref q), (1, .int 4), (2, .int (nI c)), (3, .ref a)]) dX2_goOn_22 (by decide) rfl ?_
  refine hV.iload 0 dX2_goOn_24 rfl ?_
  by_cases c26_1 : 0 < (f (28 + c))
  · refine hV.if_gt_t (tgt := 42) dX2_goOn_26 (by decide) c26_1 ?_
    refine hV.iload 0 dX2_goOn_42 rfl ?_
    by_cases c44_2 : (f (28 + c)) < 0
    · refine hV.if_lt_t (tgt := 60) dX2_goOn_44 (by decide) c44_2 ?_
      exact hE.2.2.2 dX2_goOn_60 rfl (by decide) (by decide) (zRv (zput_self (ha.trans (by rw [goF_c1 (d := 3) c26_1 c44_2]))).symm rfl)
    · refine hV.if_lt_f (tgt := 60) dX2_goOn_44 (by decide) c44_2 ?_
      refine hV.aload_n 1 dX2_goOn_47 rfl ?_
      refine hV.iload_n 2 dX2_goOn_48 rfl ?_
      refine hV.iconst (v := 1) dX2_goOn_49 (by decide) ?_
      refine hV.iadd dX2_goOn_50 ?_
      refine zTop (v := 5) (by decide) ?_
      refine hV.iload_n 3 dX2_goOn_51 rfl ?_
      refine hV.iconst (v := 1) dX2_goOn_52 (by decide) ?_
      refine hV.callSN1 (rest := [.int 5, .ref q]) dX2_goOn_53 (c_X4_bounce G (c := c) (s := 1) (by omega) (Or.inl rfl)) my_X4_bounce ks_X2_30 rfl rfl (Nat.le_of_ble_eq_true rfl) (Nat.le_of_ble_eq_true rfl) (Nat.le_of_ble_eq_true rfl) (Nat.le_of_ble_eq_true rfl) (Nat.le_of_ble_eq_true rfl) (st2 := [.int (nI (bnc c 1)), .int 5, .ref q]) (k2 := 0) (g2 := 0) rfl rfl rfl ?_
      have hbn3 := bnc_lt (c := c) (s := 1) (by omega)
      refine hV.aload_n 4 dX2_goOn_56 rfl ?_
      refine hV.callS1 (rest := []) dX2_goOn_57 (c_goOn_3 G hpins ha hqa (bnc_lt hc)) my_X2_goOn ks_X2_40 rfl rfl (Nat.le_of_ble_eq_true rfl) (Nat.le_of_ble_eq_true rfl) (Nat.le_of_ble_eq_true rfl) (Nat.le_of_ble_eq_true rfl) (Nat.le_of_ble_eq_true rfl) (st2 := []) (k2 := 0) (g2 := 0) rfl rfl rfl ?_
      refine zHeap (h2 := zput h a (some (.inl (7, .inl (goF f 3 (bnc c 1) e))))) rfl ?_
      exact hE.2.2.2 dX2_goOn_60 rfl (by decide) (by decide) (zRv (congrArg (fun z => zput h a (some (.inl (7, .inl z)))) (goF_c3 (d := 3) c26_1 c44_2).symm) rfl)
  · refine hV.if_gt_f (tgt := 42) dX2_goOn_26 (by decide) c26_1 ?_
    refine hV.aload_n 1 dX2_goOn_29 rfl ?_
    refine hV.iload_n 2 dX2_goOn_30 rfl ?_
    refine hV.iconst (v := 1) dX2_goOn_31 (by decide) ?_
    refine hV.iadd dX2_goOn_32 ?_
    refine zTop (v := 5) (by decide) ?_
    refine hV.iload_n 3 dX2_goOn_33 rfl ?_
    refine hV.iconst (v := (-1)) dX2_goOn_34 (by decide) ?_
    refine hV.callSN1 (rest := [.int 5, .ref q]) dX2_goOn_35 (c_X4_bounce G (c := c) (s := (-1)) (by omega) (Or.inr rfl)) my_X4_bounce ks_X2_30 rfl rfl (Nat.le_of_ble_eq_true rfl) (Nat.le_of_ble_eq_true rfl) (Nat.le_of_ble_eq_true rfl) (Nat.le_of_ble_eq_true rfl) (Nat.le_of_ble_eq_true rfl) (st2 := [.int (nI (bnc c (-1))), .int 5, .ref q]) (k2 := 0) (g2 := 0) rfl rfl rfl ?_
    have hbn4 := bnc_lt (c := c) (s := (-1)) (by omega)
    refine hV.aload_n 4 dX2_goOn_38 rfl ?_
    refine hV.callS1 (rest := []) dX2_goOn_39 (c_goOn_3 G hpins ha hqa (bnc_lt hc)) my_X2_goOn ks_X2_40 rfl rfl (Nat.le_of_ble_eq_true rfl) (Nat.le_of_ble_eq_true rfl) (Nat.le_of_ble_eq_true rfl) (Nat.le_of_ble_eq_true rfl) (Nat.le_of_ble_eq_true rfl) (st2 := []) (k2 := 0) (g2 := 0) rfl rfl rfl ?_
    refine zHeap (h2 := zput h a (some (.inl (7, .inl (goF f 3 (bnc c (-1)) e))))) rfl ?_
    refine hV.iload 0 dX2_goOn_42 rfl ?_
    by_cases c44_5 : (f (28 + c)) < 0
    · refine hV.if_lt_t (tgt := 60) dX2_goOn_44 (by decide) c44_5 ?_
      exact hE.2.2.2 dX2_goOn_60 rfl (by decide) (by decide) (zRv (congrArg (fun z => zput h a (some (.inl (7, .inl z)))) (goF_c2 (d := 3) c26_1 c44_5).symm) rfl)
    · refine hV.if_lt_f (tgt := 60) dX2_goOn_44 (by decide) c44_5 ?_
      refine hV.aload_n 1 dX2_goOn_47 rfl ?_
      refine hV.iload_n 2 dX2_goOn_48 rfl ?_
      refine hV.iconst (v := 1) dX2_goOn_49 (by decide) ?_
      refine hV.iadd dX2_goOn_50 ?_
      refine zTop (v := 5) (by decide) ?_
      refine hV.iload_n 3 dX2_goOn_51 rfl ?_
      refine hV.iconst (v := 1) dX2_goOn_52 (by decide) ?_
      refine hV.callSN1 (rest := [.int 5, .ref q]) dX2_goOn_53 (c_X4_bounce G (c := c) (s := 1) (by omega) (Or.inl rfl)) my_X4_bounce ks_X2_30 rfl rfl (Nat.le_of_ble_eq_true rfl) (Nat.le_of_ble_eq_true rfl) (Nat.le_of_ble_eq_true rfl) (Nat.le_of_ble_eq_true rfl) (Nat.le_of_ble_eq_true rfl) (st2 := [.int (nI (bnc c 1)), .int 5, .ref q]) (k2 := 0) (g2 := 0) rfl rfl rfl ?_
      have hbn6 := bnc_lt (c := c) (s := 1) (by omega)
      refine hV.aload_n 4 dX2_goOn_56 rfl ?_
      refine hV.callS1 (rest := []) dX2_goOn_57 (c_goOn_3 G ((zput_ne hqa).trans hpins) zput_at hqa (bnc_lt hc)) my_X2_goOn ks_X2_40 rfl rfl (Nat.le_of_ble_eq_true rfl) (Nat.le_of_ble_eq_true rfl) (Nat.le_of_ble_eq_true rfl) (Nat.le_of_ble_eq_true rfl) (Nat.le_of_ble_eq_true rfl) (st2 := []) (k2 := 0) (g2 := 0) rfl rfl rfl ?_
      refine zHeap (h2 := zput h a (some (.inl (7, .inl (goF f 3 (bnc c 1) (goF f 3 (bnc c (-1)) e)))))) zput_zput ?_
      exact hE.2.2.2 dX2_goOn_60 rfl (by decide) (by decide) (zRv (congrArg (fun z => zput h a (some (.inl (7, .inl z)))) (goF_c4 (d := 3) c26_1 c44_5).symm) rfl)

set_option maxRecDepth 100000 in
set_option maxHeartbeats 4000000 in
theorem c_goOn_5 {l : Launch} {D : va_G} {base : Nat} (G : l.stackTraces = false) {h : zH} {n : Nat} {a q : Nat} {f e : Nat → Int32} {c : Nat} (hpins : h q = some (.inl (56, .inl f))) (ha : h a = some (.inl (7, .inl e))) (hqa : q ≠ a) (hc : c < 7) :
    zCt l D base 7 yX2_goOn w_X2_goOn [.ref q, .int 3, .int (nI c), .ref a] (h) n 0 0 (zR none (zput h a (some (.inl (7, .inl (goF f 5 c e))))) n) := by
  refine zCt.of G (by decide) (Nat.le_of_ble_eq_true rfl) (fun Sx V X hV hE hX => ?_)
  show V 0 [(0, .ref q), (1, .int 3), (2, .int (nI c)), (3, .ref a)] [] (h) n 0 0
  refine hV.iload_n 1 dX2_goOn_0 rfl ?_
  refine hV.bipush (v := 8) dX2_goOn_1 (by decide) ?_
  refine hV.icmp_lt_t (tgt := 14) dX2_goOn_3 (by decide) (by decide) ?_
  refine hV.aload_n 0 dX2_goOn_14 rfl ?_
  refine hV.iload_n 1 dX2_goOn_15 rfl ?_
  refine hV.bipush (v := 7) dX2_goOn_16 (by decide) ?_
  refine hV.imul dX2_goOn_18 ?_
  refine zTop (v := 21) (by decide) ?_
  refine hV.iload_n 2 dX2_goOn_19 rfl ?_
  refine hV.iaddN (a := 21) (b := c) dX2_goOn_20 ?_
  refine zTop (v := nI (21 + c)) rfl ?_
  refine hV.iald (j := 21 + c) dX2_goOn_21 hpins (zix_nI (by omega)) (by omega) ?_
  refine hV.istore (ls2 := [(4, .int (f (21 + c))), (0, .ref q), (1, .int 3), (2, .int (nI c)), (3, .ref a)]) dX2_goOn_22 (by decide) rfl ?_
  refine hV.iload 0 dX2_goOn_24 rfl ?_
  by_cases c26_1 : 0 < (f (21 + c))
  · refine hV.if_gt_t (tgt := 42) dX2_goOn_26 (by decide) c26_1 ?_
    refine hV.iload 0 dX2_goOn_42 rfl ?_
    by_cases c44_2 : (f (21 + c)) < 0
    · refine hV.if_lt_t (tgt := 60) dX2_goOn_44 (by decide) c44_2 ?_
      exact hE.2.2.2 dX2_goOn_60 rfl (by decide) (by decide) (zRv (zput_self (ha.trans (by rw [goF_c1 (d := 4) c26_1 c44_2]))).symm rfl)
    · refine hV.if_lt_f (tgt := 60) dX2_goOn_44 (by decide) c44_2 ?_
      refine hV.aload_n 1 dX2_goOn_47 rfl ?_
      refine hV.iload_n 2 dX2_goOn_48 rfl ?_
      refine hV.iconst (v := 1) dX2_goOn_49 (by decide) ?_
      refine hV.iadd dX2_goOn_50 ?_
      refine zTop (v := 4) (by decide) ?_
      refine hV.iload_n 3 dX2_goOn_51 rfl ?_
      refine hV.iconst (v := 1) dX2_goOn_52 (by decide) ?_
      refine hV.callSN1 (rest := [.int 4, .ref q]) dX2_goOn_53 (c_X4_bounce G (c := c) (s := 1) (by omega) (Or.inl rfl)) my_X4_bounce ks_X2_30 rfl rfl (Nat.le_of_ble_eq_true rfl) (Nat.le_of_ble_eq_true rfl) (Nat.le_of_ble_eq_true rfl) (Nat.le_of_ble_eq_true rfl) (Nat.le_of_ble_eq_true rfl) (st2 := [.int (nI (bnc c 1)), .int 4, .ref q]) (k2 := 0) (g2 := 0) rfl rfl rfl ?_
      have hbn3 := bnc_lt (c := c) (s := 1) (by omega)
      refine hV.aload_n 4 dX2_goOn_56 rfl ?_
      refine hV.callS1 (rest := []) dX2_goOn_57 (c_goOn_4 G hpins ha hqa (bnc_lt hc)) my_X2_goOn ks_X2_40 rfl rfl (Nat.le_of_ble_eq_true rfl) (Nat.le_of_ble_eq_true rfl) (Nat.le_of_ble_eq_true rfl) (Nat.le_of_ble_eq_true rfl) (Nat.le_of_ble_eq_true rfl) (st2 := []) (k2 := 0) (g2 := 0) rfl rfl rfl ?_
      refine zHeap (h2 := zput h a (some (.inl (7, .inl (goF f 4 (bnc c 1) e))))) rfl ?_
      exact hE.2.2.2 dX2_goOn_60 rfl (by decide) (by decide) (zRv (congrArg (fun z => zput h a (some (.inl (7, .inl z)))) (goF_c3 (d := 4) c26_1 c44_2).symm) rfl)
  · refine hV.if_gt_f (tgt := 42) dX2_goOn_26 (by decide) c26_1 ?_
    refine hV.aload_n 1 dX2_goOn_29 rfl ?_
    refine hV.iload_n 2 dX2_goOn_30 rfl ?_
    refine hV.iconst (v := 1) dX2_goOn_31 (by decide) ?_
    refine hV.iadd dX2_goOn_32 ?_
    refine zTop (v := 4) (by decide) ?_
    refine hV.iload_n 3 dX2_goOn_33 rfl ?_
    refine hV.iconst (v := (-1)) dX2_goOn_34 (by decide) ?_
    refine hV.callSN1 (rest := [.int 4, .ref q]) dX2_goOn_35 (c_X4_bounce G (c := c) (s := (-1)) (by omega) (Or.inr rfl)) my_X4_bounce ks_X2_30 rfl rfl (Nat.le_of_ble_eq_true rfl) (Nat.le_of_ble_eq_true rfl) (Nat.le_of_ble_eq_true rfl) (Nat.le_of_ble_eq_true rfl) (Nat.le_of_ble_eq_true rfl) (st2 := [.int (nI (bnc c (-1))), .int 4, .ref q]) (k2 := 0) (g2 := 0) rfl rfl rfl ?_
    have hbn4 := bnc_lt (c := c) (s := (-1)) (by omega)
    refine hV.aload_n 4 dX2_goOn_38 rfl ?_
    refine hV.callS1 (rest := []) dX2_goOn_39 (c_goOn_4 G hpins ha hqa (bnc_lt hc)) my_X2_goOn ks_X2_40 rfl rfl (Nat.le_of_ble_eq_true rfl) (Nat.le_of_ble_eq_true rfl) (Nat.le_of_ble_eq_true rfl) (Nat.le_of_ble_eq_true rfl) (Nat.le_of_ble_eq_true rfl) (st2 := []) (k2 := 0) (g2 := 0) rfl rfl rfl ?_
    refine zHeap (h2 := zput h a (some (.inl (7, .inl (goF f 4 (bnc c (-1)) e))))) rfl ?_
    refine hV.iload 0 dX2_goOn_42 rfl ?_
    by_cases c44_5 : (f (21 + c)) < 0
    · refine hV.if_lt_t (tgt := 60) dX2_goOn_44 (by decide) c44_5 ?_
      exact hE.2.2.2 dX2_goOn_60 rfl (by decide) (by decide) (zRv (congrArg (fun z => zput h a (some (.inl (7, .inl z)))) (goF_c2 (d := 4) c26_1 c44_5).symm) rfl)
    · refine hV.if_lt_f (tgt := 60) dX2_goOn_44 (by decide) c44_5 ?_
      refine hV.aload_n 1 dX2_goOn_47 rfl ?_
      refine hV.iload_n 2 dX2_goOn_48 rfl ?_
      refine hV.iconst (v := 1) dX2_goOn_49 (by decide) ?_
      refine hV.iadd dX2_goOn_50 ?_
      refine zTop (v := 4) (by decide) ?_
      refine hV.iload_n 3 dX2_goOn_51 rfl ?_
      refine hV.iconst (v := 1) dX2_goOn_52 (by decide) ?_
      refine hV.callSN1 (rest := [.int 4, .ref q]) dX2_goOn_53 (c_X4_bounce G (c := c) (s := 1) (by omega) (Or.inl rfl)) my_X4_bounce ks_X2_30 rfl rfl (Nat.le_of_ble_eq_true rfl) (Nat.le_of_ble_eq_true rfl) (Nat.le_of_ble_eq_true rfl) (Nat.le_of_ble_eq_true rfl) (Nat.le_of_ble_eq_true rfl) (st2 := [.int (nI (bnc c 1)), .int 4, .ref q]) (k2 := 0) (g2 := 0) rfl rfl rfl ?_
      have hbn6 := bnc_lt (c := c) (s := 1) (by omega)
      refine hV.aload_n 4 dX2_goOn_56 rfl ?_
      refine hV.callS1 (rest := []) dX2_goOn_57 (c_goOn_4 G ((zput_ne hqa).trans hpins) zput_at hqa (bnc_lt hc)) my_X2_goOn ks_X2_40 rfl rfl (Nat.le_of_ble_eq_true rfl) (Nat.le_of_ble_eq_true rfl) (Nat.le_of_ble_eq_true rfl) (Nat.le_of_ble_eq_true rfl) (Nat.le_of_ble_eq_true rfl) (st2 := []) (k2 := 0) (g2 := 0) rfl rfl rfl ?_
      refine zHeap (h2 := zput h a (some (.inl (7, .inl (goF f 4 (bnc c 1) (goF f 4 (bnc c (-1)) e)))))) zput_zput ?_
      exact hE.2.2.2 dX2_goOn_60 rfl (by decide) (by decide) (zRv (congrArg (fun z => zput h a (some (.inl (7, .inl z)))) (goF_c4 (d := 4) c26_1 c44_5).symm) rfl)

set_option maxRecDepth 100000 in
set_option maxHeartbeats 4000000 in
theorem c_goOn_6 {l : Launch} {D : va_G} {base : Nat} (G : l.stackTraces = false) {h : zH} {n : Nat} {a q : Nat} {f e : Nat → Int32} {c : Nat} (hpins : h q = some (.inl (56, .inl f))) (ha : h a = some (.inl (7, .inl e))) (hqa : q ≠ a) (hc : c < 7) :
    zCt l D base 8 yX2_goOn w_X2_goOn [.ref q, .int 2, .int (nI c), .ref a] (h) n 0 0 (zR none (zput h a (some (.inl (7, .inl (goF f 6 c e))))) n) := by
  refine zCt.of G (by decide) (Nat.le_of_ble_eq_true rfl) (fun Sx V X hV hE hX => ?_)
  show V 0 [(0, .ref q), (1, .int 2), (2, .int (nI c)), (3, .ref a)] [] (h) n 0 0
  refine hV.iload_n 1 dX2_goOn_0 rfl ?_
  refine hV.bipush (v := 8) dX2_goOn_1 (by decide) ?_
  refine hV.icmp_lt_t (tgt := 14) dX2_goOn_3 (by decide) (by decide) ?_
  refine hV.aload_n 0 dX2_goOn_14 rfl ?_
  refine hV.iload_n 1 dX2_goOn_15 rfl ?_
  refine hV.bipush (v := 7) dX2_goOn_16 (by decide) ?_
  refine hV.imul dX2_goOn_18 ?_
  refine zTop (v := 14) (by decide) ?_
  refine hV.iload_n 2 dX2_goOn_19 rfl ?_
  refine hV.iaddN (a := 14) (b := c) dX2_goOn_20 ?_
  refine zTop (v := nI (14 + c)) rfl ?_
  refine hV.iald (j := 14 + c) dX2_goOn_21 hpins (zix_nI (by omega)) (by omega) ?_
  refine hV.istore (ls2 := [(4, .int (f (14 + c))), (0, .ref q), (1, .int 2), (2, .int (nI c)), (3, .ref a)]) dX2_goOn_22 (by decide) rfl ?_
  refine hV.iload 0 dX2_goOn_24 rfl ?_
  by_cases c26_1 : 0 < (f (14 + c))
  · refine hV.if_gt_t (tgt := 42) dX2_goOn_26 (by decide) c26_1 ?_
    refine hV.iload 0 dX2_goOn_42 rfl ?_
    by_cases c44_2 : (f (14 + c)) < 0
    · refine hV.if_lt_t (tgt := 60) dX2_goOn_44 (by decide) c44_2 ?_
      exact hE.2.2.2 dX2_goOn_60 rfl (by decide) (by decide) (zRv (zput_self (ha.trans (by rw [goF_c1 (d := 5) c26_1 c44_2]))).symm rfl)
    · refine hV.if_lt_f (tgt := 60) dX2_goOn_44 (by decide) c44_2 ?_
      refine hV.aload_n 1 dX2_goOn_47 rfl ?_
      refine hV.iload_n 2 dX2_goOn_48 rfl ?_
      refine hV.iconst (v := 1) dX2_goOn_49 (by decide) ?_
      refine hV.iadd dX2_goOn_50 ?_
      refine zTop (v := 3) (by decide) ?_
      refine hV.iload_n 3 dX2_goOn_51 rfl ?_
      refine hV.iconst (v := 1) dX2_goOn_52 (by decide) ?_
      refine hV.callSN1 (rest := [.int 3, .ref q]) dX2_goOn_53 (c_X4_bounce G (c := c) (s := 1) (by omega) (Or.inl rfl)) my_X4_bounce ks_X2_30 rfl rfl (Nat.le_of_ble_eq_true rfl) (Nat.le_of_ble_eq_true rfl) (Nat.le_of_ble_eq_true rfl) (Nat.le_of_ble_eq_true rfl) (Nat.le_of_ble_eq_true rfl) (st2 := [.int (nI (bnc c 1)), .int 3, .ref q]) (k2 := 0) (g2 := 0) rfl rfl rfl ?_
      have hbn3 := bnc_lt (c := c) (s := 1) (by omega)
      refine hV.aload_n 4 dX2_goOn_56 rfl ?_
      refine hV.callS1 (rest := []) dX2_goOn_57 (c_goOn_5 G hpins ha hqa (bnc_lt hc)) my_X2_goOn ks_X2_40 rfl rfl (Nat.le_of_ble_eq_true rfl) (Nat.le_of_ble_eq_true rfl) (Nat.le_of_ble_eq_true rfl) (Nat.le_of_ble_eq_true rfl) (Nat.le_of_ble_eq_true rfl) (st2 := []) (k2 := 0) (g2 := 0) rfl rfl rfl ?_
      refine zHeap (h2 := zput h a (some (.inl (7, .inl (goF f 5 (bnc c 1) e))))) rfl ?_
      exact hE.2.2.2 dX2_goOn_60 rfl (by decide) (by decide) (zRv (congrArg (fun z => zput h a (some (.inl (7, .inl z)))) (goF_c3 (d := 5) c26_1 c44_2).symm) rfl)
  · refine hV.if_gt_f (tgt := 42) dX2_goOn_26 (by decide) c26_1 ?_
    refine hV.aload_n 1 dX2_goOn_29 rfl ?_
    refine hV.iload_n 2 dX2_goOn_30 rfl ?_
    refine hV.iconst (v := 1) dX2_goOn_31 (by decide) ?_
    refine hV.iadd dX2_goOn_32 ?_
    refine zTop (v := 3) (by decide) ?_
    refine hV.iload_n 3 dX2_goOn_33 rfl ?_
    refine hV.iconst (v := (-1)) dX2_goOn_34 (by decide) ?_
    refine hV.callSN1 (rest := [.int 3, .ref q]) dX2_goOn_35 (c_X4_bounce G (c := c) (s := (-1)) (by omega) (Or.inr rfl)) my_X4_bounce ks_X2_30 rfl rfl (Nat.le_of_ble_eq_true rfl) (Nat.le_of_ble_eq_true rfl) (Nat.le_of_ble_eq_true rfl) (Nat.le_of_ble_eq_true rfl) (Nat.le_of_ble_eq_true rfl) (st2 := [.int (nI (bnc c (-1))), .int 3, .ref q]) (k2 := 0) (g2 := 0) rfl rfl rfl ?_
    have hbn4 := bnc_lt (c := c) (s := (-1)) (by omega)
    refine hV.aload_n 4 dX2_goOn_38 rfl ?_
    refine hV.callS1 (rest := []) dX2_goOn_39 (c_goOn_5 G hpins ha hqa (bnc_lt hc)) my_X2_goOn ks_X2_40 rfl rfl (Nat.le_of_ble_eq_true rfl) (Nat.le_of_ble_eq_true rfl) (Nat.le_of_ble_eq_true rfl) (Nat.le_of_ble_eq_true rfl) (Nat.le_of_ble_eq_true rfl) (st2 := []) (k2 := 0) (g2 := 0) rfl rfl rfl ?_
    refine zHeap (h2 := zput h a (some (.inl (7, .inl (goF f 5 (bnc c (-1)) e))))) rfl ?_
    refine hV.iload 0 dX2_goOn_42 rfl ?_
    by_cases c44_5 : (f (14 + c)) < 0
    · refine hV.if_lt_t (tgt := 60) dX2_goOn_44 (by decide) c44_5 ?_
      exact hE.2.2.2 dX2_goOn_60 rfl (by decide) (by decide) (zRv (congrArg (fun z => zput h a (some (.inl (7, .inl z)))) (goF_c2 (d := 5) c26_1 c44_5).symm) rfl)
    · refine hV.if_lt_f (tgt := 60) dX2_goOn_44 (by decide) c44_5 ?_
      refine hV.aload_n 1 dX2_goOn_47 rfl ?_
      refine hV.iload_n 2 dX2_goOn_48 rfl ?_
      refine hV.iconst (v := 1) dX2_goOn_49 (by decide) ?_
      refine hV.iadd dX2_goOn_50 ?_
      refine zTop (v := 3) (by decide) ?_
      refine hV.iload_n 3 dX2_goOn_51 rfl ?_
      refine hV.iconst (v := 1) dX2_goOn_52 (by decide) ?_
      refine hV.callSN1 (rest := [.int 3, .ref q]) dX2_goOn_53 (c_X4_bounce G (c := c) (s := 1) (by omega) (Or.inl rfl)) my_X4_bounce ks_X2_30 rfl rfl (Nat.le_of_ble_eq_true rfl) (Nat.le_of_ble_eq_true rfl) (Nat.le_of_ble_eq_true rfl) (Nat.le_of_ble_eq_true rfl) (Nat.le_of_ble_eq_true rfl) (st2 := [.int (nI (bnc c 1)), .int 3, .ref q]) (k2 := 0) (g2 := 0) rfl rfl rfl ?_
      have hbn6 := bnc_lt (c := c) (s := 1) (by omega)
      refine hV.aload_n 4 dX2_goOn_56 rfl ?_
      refine hV.callS1 (rest := []) dX2_goOn_57 (c_goOn_5 G ((zput_ne hqa).trans hpins) zput_at hqa (bnc_lt hc)) my_X2_goOn ks_X2_40 rfl rfl (Nat.le_of_ble_eq_true rfl) (Nat.le_of_ble_eq_true rfl) (Nat.le_of_ble_eq_true rfl) (Nat.le_of_ble_eq_true rfl) (Nat.le_of_ble_eq_true rfl) (st2 := []) (k2 := 0) (g2 := 0) rfl rfl rfl ?_
      refine zHeap (h2 := zput h a (some (.inl (7, .inl (goF f 5 (bnc c 1) (goF f 5 (bnc c (-1)) e)))))) zput_zput ?_
      exact hE.2.2.2 dX2_goOn_60 rfl (by decide) (by decide) (zRv (congrArg (fun z => zput h a (some (.inl (7, .inl z)))) (goF_c4 (d := 5) c26_1 c44_5).symm) rfl)

set_option maxRecDepth 100000 in
set_option maxHeartbeats 4000000 in
theorem c_goOn_7 {l : Launch} {D : va_G} {base : Nat} (G : l.stackTraces = false) {h : zH} {n : Nat} {a q : Nat} {f e : Nat → Int32} {c : Nat} (hpins : h q = some (.inl (56, .inl f))) (ha : h a = some (.inl (7, .inl e))) (hqa : q ≠ a) (hc : c < 7) :
    zCt l D base 9 yX2_goOn w_X2_goOn [.ref q, .int 1, .int (nI c), .ref a] (h) n 0 0 (zR none (zput h a (some (.inl (7, .inl (goF f 7 c e))))) n) := by
  refine zCt.of G (by decide) (Nat.le_of_ble_eq_true rfl) (fun Sx V X hV hE hX => ?_)
  show V 0 [(0, .ref q), (1, .int 1), (2, .int (nI c)), (3, .ref a)] [] (h) n 0 0
  refine hV.iload_n 1 dX2_goOn_0 rfl ?_
  refine hV.bipush (v := 8) dX2_goOn_1 (by decide) ?_
  refine hV.icmp_lt_t (tgt := 14) dX2_goOn_3 (by decide) (by decide) ?_
  refine hV.aload_n 0 dX2_goOn_14 rfl ?_
  refine hV.iload_n 1 dX2_goOn_15 rfl ?_
  refine hV.bipush (v := 7) dX2_goOn_16 (by decide) ?_
  refine hV.imul dX2_goOn_18 ?_
  refine zTop (v := 7) (by decide) ?_
  refine hV.iload_n 2 dX2_goOn_19 rfl ?_
  refine hV.iaddN (a := 7) (b := c) dX2_goOn_20 ?_
  refine zTop (v := nI (7 + c)) rfl ?_
  refine hV.iald (j := 7 + c) dX2_goOn_21 hpins (zix_nI (by omega)) (by omega) ?_
  refine hV.istore (ls2 := [(4, .int (f (7 + c))), (0, .ref q), (1, .int 1), (2, .int (nI c)), (3, .ref a)]) dX2_goOn_22 (by decide) rfl ?_
  refine hV.iload 0 dX2_goOn_24 rfl ?_
  by_cases c26_1 : 0 < (f (7 + c))
  · refine hV.if_gt_t (tgt := 42) dX2_goOn_26 (by decide) c26_1 ?_
    refine hV.iload 0 dX2_goOn_42 rfl ?_
    by_cases c44_2 : (f (7 + c)) < 0
    · refine hV.if_lt_t (tgt := 60) dX2_goOn_44 (by decide) c44_2 ?_
      exact hE.2.2.2 dX2_goOn_60 rfl (by decide) (by decide) (zRv (zput_self (ha.trans (by rw [goF_c1 (d := 6) c26_1 c44_2]))).symm rfl)
    · refine hV.if_lt_f (tgt := 60) dX2_goOn_44 (by decide) c44_2 ?_
      refine hV.aload_n 1 dX2_goOn_47 rfl ?_
      refine hV.iload_n 2 dX2_goOn_48 rfl ?_
      refine hV.iconst (v := 1) dX2_goOn_49 (by decide) ?_
      refine hV.iadd dX2_goOn_50 ?_
      refine zTop (v := 2) (by decide) ?_
      refine hV.iload_n 3 dX2_goOn_51 rfl ?_
      refine hV.iconst (v := 1) dX2_goOn_52 (by decide) ?_
      refine hV.callSN1 (rest := [.int 2, .ref q]) dX2_goOn_53 (c_X4_bounce G (c := c) (s := 1) (by omega) (Or.inl rfl)) my_X4_bounce ks_X2_30 rfl rfl (Nat.le_of_ble_eq_true rfl) (Nat.le_of_ble_eq_true rfl) (Nat.le_of_ble_eq_true rfl) (Nat.le_of_ble_eq_true rfl) (Nat.le_of_ble_eq_true rfl) (st2 := [.int (nI (bnc c 1)), .int 2, .ref q]) (k2 := 0) (g2 := 0) rfl rfl rfl ?_
      have hbn3 := bnc_lt (c := c) (s := 1) (by omega)
      refine hV.aload_n 4 dX2_goOn_56 rfl ?_
      refine hV.callS1 (rest := []) dX2_goOn_57 (c_goOn_6 G hpins ha hqa (bnc_lt hc)) my_X2_goOn ks_X2_40 rfl rfl (Nat.le_of_ble_eq_true rfl) (Nat.le_of_ble_eq_true rfl) (Nat.le_of_ble_eq_true rfl) (Nat.le_of_ble_eq_true rfl) (Nat.le_of_ble_eq_true rfl) (st2 := []) (k2 := 0) (g2 := 0) rfl rfl rfl ?_
      refine zHeap (h2 := zput h a (some (.inl (7, .inl (goF f 6 (bnc c 1) e))))) rfl ?_
      exact hE.2.2.2 dX2_goOn_60 rfl (by decide) (by decide) (zRv (congrArg (fun z => zput h a (some (.inl (7, .inl z)))) (goF_c3 (d := 6) c26_1 c44_2).symm) rfl)
  · refine hV.if_gt_f (tgt := 42) dX2_goOn_26 (by decide) c26_1 ?_
    refine hV.aload_n 1 dX2_goOn_29 rfl ?_
    refine hV.iload_n 2 dX2_goOn_30 rfl ?_
    refine hV.iconst (v := 1) dX2_goOn_31 (by decide) ?_
    refine hV.iadd dX2_goOn_32 ?_
    refine zTop (v := 2) (by decide) ?_
    refine hV.iload_n 3 dX2_goOn_33 rfl ?_
    refine hV.iconst (v := (-1)) dX2_goOn_34 (by decide) ?_
    refine hV.callSN1 (rest := [.int 2, .ref q]) dX2_goOn_35 (c_X4_bounce G (c := c) (s := (-1)) (by omega) (Or.inr rfl)) my_X4_bounce ks_X2_30 rfl rfl (Nat.le_of_ble_eq_true rfl) (Nat.le_of_ble_eq_true rfl) (Nat.le_of_ble_eq_true rfl) (Nat.le_of_ble_eq_true rfl) (Nat.le_of_ble_eq_true rfl) (st2 := [.int (nI (bnc c (-1))), .int 2, .ref q]) (k2 := 0) (g2 := 0) rfl rfl rfl ?_
    have hbn4 := bnc_lt (c := c) (s := (-1)) (by omega)
    refine hV.aload_n 4 dX2_goOn_38 rfl ?_
    refine hV.callS1 (rest := []) dX2_goOn_39 (c_goOn_6 G hpins ha hqa (bnc_lt hc)) my_X2_goOn ks_X2_40 rfl rfl (Nat.le_of_ble_eq_true rfl) (Nat.le_of_ble_eq_true rfl) (Nat.le_of_ble_eq_true rfl) (Nat.le_of_ble_eq_true rfl) (Nat.le_of_ble_eq_true rfl) (st2 := []) (k2 := 0) (g2 := 0) rfl rfl rfl ?_
    refine zHeap (h2 := zput h a (some (.inl (7, .inl (goF f 6 (bnc c (-1)) e))))) rfl ?_
    refine hV.iload 0 dX2_goOn_42 rfl ?_
    by_cases c44_5 : (f (7 + c)) < 0
    · refine hV.if_lt_t (tgt := 60) dX2_goOn_44 (by decide) c44_5 ?_
      exact hE.2.2.2 dX2_goOn_60 rfl (by decide) (by decide) (zRv (congrArg (fun z => zput h a (some (.inl (7, .inl z)))) (goF_c2 (d := 6) c26_1 c44_5).symm) rfl)
    · refine hV.if_lt_f (tgt := 60) dX2_goOn_44 (by decide) c44_5 ?_
      refine hV.aload_n 1 dX2_goOn_47 rfl ?_
      refine hV.iload_n 2 dX2_goOn_48 rfl ?_
      refine hV.iconst (v := 1) dX2_goOn_49 (by decide) ?_
      refine hV.iadd dX2_goOn_50 ?_
      refine zTop (v := 2) (by decide) ?_
      refine hV.iload_n 3 dX2_goOn_51 rfl ?_
      refine hV.iconst (v := 1) dX2_goOn_52 (by decide) ?_
      refine hV.callSN1 (rest := [.int 2, .ref q]) dX2_goOn_53 (c_X4_bounce G (c := c) (s := 1) (by omega) (Or.inl rfl)) my_X4_bounce ks_X2_30 rfl rfl (Nat.le_of_ble_eq_true rfl) (Nat.le_of_ble_eq_true rfl) (Nat.le_of_ble_eq_true rfl) (Nat.le_of_ble_eq_true rfl) (Nat.le_of_ble_eq_true rfl) (st2 := [.int (nI (bnc c 1)), .int 2, .ref q]) (k2 := 0) (g2 := 0) rfl rfl rfl ?_
      have hbn6 := bnc_lt (c := c) (s := 1) (by omega)
      refine hV.aload_n 4 dX2_goOn_56 rfl ?_
      refine hV.callS1 (rest := []) dX2_goOn_57 (c_goOn_6 G ((zput_ne hqa).trans hpins) zput_at hqa (bnc_lt hc)) my_X2_goOn ks_X2_40 rfl rfl (Nat.le_of_ble_eq_true rfl) (Nat.le_of_ble_eq_true rfl) (Nat.le_of_ble_eq_true rfl) (Nat.le_of_ble_eq_true rfl) (Nat.le_of_ble_eq_true rfl) (st2 := []) (k2 := 0) (g2 := 0) rfl rfl rfl ?_
      refine zHeap (h2 := zput h a (some (.inl (7, .inl (goF f 6 (bnc c 1) (goF f 6 (bnc c (-1)) e)))))) zput_zput ?_
      exact hE.2.2.2 dX2_goOn_60 rfl (by decide) (by decide) (zRv (congrArg (fun z => zput h a (some (.inl (7, .inl z)))) (goF_c4 (d := 6) c26_1 c44_5).symm) rfl)

set_option maxRecDepth 100000 in
set_option maxHeartbeats 4000000 in
theorem c_goOn_8 {l : Launch} {D : va_G} {base : Nat} (G : l.stackTraces = false) {h : zH} {n : Nat} {a q : Nat} {f e : Nat → Int32} {c : Nat} (hpins : h q = some (.inl (56, .inl f))) (ha : h a = some (.inl (7, .inl e))) (hqa : q ≠ a) (hc : c < 7) :
    zCt l D base 10 yX2_goOn w_X2_goOn [.ref q, .int 0, .int (nI c), .ref a] (h) n 0 0 (zR none (zput h a (some (.inl (7, .inl (goF f 8 c e))))) n) := by
  refine zCt.of G (by decide) (Nat.le_of_ble_eq_true rfl) (fun Sx V X hV hE hX => ?_)
  show V 0 [(0, .ref q), (1, .int 0), (2, .int (nI c)), (3, .ref a)] [] (h) n 0 0
  refine hV.iload_n 1 dX2_goOn_0 rfl ?_
  refine hV.bipush (v := 8) dX2_goOn_1 (by decide) ?_
  refine hV.icmp_lt_t (tgt := 14) dX2_goOn_3 (by decide) (by decide) ?_
  refine hV.aload_n 0 dX2_goOn_14 rfl ?_
  refine hV.iload_n 1 dX2_goOn_15 rfl ?_
  refine hV.bipush (v := 7) dX2_goOn_16 (by decide) ?_
  refine hV.imul dX2_goOn_18 ?_
  refine zTop (v := 0) (by decide) ?_
  refine hV.iload_n 2 dX2_goOn_19 rfl ?_
  refine hV.iaddN (a := 0) (b := c) dX2_goOn_20 ?_
  refine zTop (v := nI (0 + c)) rfl ?_
  refine hV.iald (j := 0 + c) dX2_goOn_21 hpins (zix_nI (by omega)) (by omega) ?_
  refine hV.istore (ls2 := [(4, .int (f (0 + c))), (0, .ref q), (1, .int 0), (2, .int (nI c)), (3, .ref a)]) dX2_goOn_22 (by decide) rfl ?_
  refine hV.iload 0 dX2_goOn_24 rfl ?_
  by_cases c26_1 : 0 < (f (0 + c))
  · refine hV.if_gt_t (tgt := 42) dX2_goOn_26 (by decide) c26_1 ?_
    refine hV.iload 0 dX2_goOn_42 rfl ?_
    by_cases c44_2 : (f (0 + c)) < 0
    · refine hV.if_lt_t (tgt := 60) dX2_goOn_44 (by decide) c44_2 ?_
      exact hE.2.2.2 dX2_goOn_60 rfl (by decide) (by decide) (zRv (zput_self (ha.trans (by rw [goF_c1 (d := 7) c26_1 c44_2]))).symm rfl)
    · refine hV.if_lt_f (tgt := 60) dX2_goOn_44 (by decide) c44_2 ?_
      refine hV.aload_n 1 dX2_goOn_47 rfl ?_
      refine hV.iload_n 2 dX2_goOn_48 rfl ?_
      refine hV.iconst (v := 1) dX2_goOn_49 (by decide) ?_
      refine hV.iadd dX2_goOn_50 ?_
      refine zTop (v := 1) (by decide) ?_
      refine hV.iload_n 3 dX2_goOn_51 rfl ?_
      refine hV.iconst (v := 1) dX2_goOn_52 (by decide) ?_
      refine hV.callSN1 (rest := [.int 1, .ref q]) dX2_goOn_53 (c_X4_bounce G (c := c) (s := 1) (by omega) (Or.inl rfl)) my_X4_bounce ks_X2_30 rfl rfl (Nat.le_of_ble_eq_true rfl) (Nat.le_of_ble_eq_true rfl) (Nat.le_of_ble_eq_true rfl) (Nat.le_of_ble_eq_true rfl) (Nat.le_of_ble_eq_true rfl) (st2 := [.int (nI (bnc c 1)), .int 1, .ref q]) (k2 := 0) (g2 := 0) rfl rfl rfl ?_
      have hbn3 := bnc_lt (c := c) (s := 1) (by omega)
      refine hV.aload_n 4 dX2_goOn_56 rfl ?_
      refine hV.callS1 (rest := []) dX2_goOn_57 (c_goOn_7 G hpins ha hqa (bnc_lt hc)) my_X2_goOn ks_X2_40 rfl rfl (Nat.le_of_ble_eq_true rfl) (Nat.le_of_ble_eq_true rfl) (Nat.le_of_ble_eq_true rfl) (Nat.le_of_ble_eq_true rfl) (Nat.le_of_ble_eq_true rfl) (st2 := []) (k2 := 0) (g2 := 0) rfl rfl rfl ?_
      refine zHeap (h2 := zput h a (some (.inl (7, .inl (goF f 7 (bnc c 1) e))))) rfl ?_
      exact hE.2.2.2 dX2_goOn_60 rfl (by decide) (by decide) (zRv (congrArg (fun z => zput h a (some (.inl (7, .inl z)))) (goF_c3 (d := 7) c26_1 c44_2).symm) rfl)
  · refine hV.if_gt_f (tgt := 42) dX2_goOn_26 (by decide) c26_1 ?_
    refine hV.aload_n 1 dX2_goOn_29 rfl ?_
    refine hV.iload_n 2 dX2_goOn_30 rfl ?_
    refine hV.iconst (v := 1) dX2_goOn_31 (by decide) ?_
    refine hV.iadd dX2_goOn_32 ?_
    refine zTop (v := 1) (by decide) ?_
    refine hV.iload_n 3 dX2_goOn_33 rfl ?_
    refine hV.iconst (v := (-1)) dX2_goOn_34 (by decide) ?_
    refine hV.callSN1 (rest := [.int 1, .ref q]) dX2_goOn_35 (c_X4_bounce G (c := c) (s := (-1)) (by omega) (Or.inr rfl)) my_X4_bounce ks_X2_30 rfl rfl (Nat.le_of_ble_eq_true rfl) (Nat.le_of_ble_eq_true rfl) (Nat.le_of_ble_eq_true rfl) (Nat.le_of_ble_eq_true rfl) (Nat.le_of_ble_eq_true rfl) (st2 := [.int (nI (bnc c (-1))), .int 1, .ref q]) (k2 := 0) (g2 := 0) rfl rfl rfl ?_
    have hbn4 := bnc_lt (c := c) (s := (-1)) (by omega)
    refine hV.aload_n 4 dX2_goOn_38 rfl ?_
    refine hV.callS1 (rest := []) dX2_goOn_39 (c_goOn_7 G hpins ha hqa (bnc_lt hc)) my_X2_goOn ks_X2_40 rfl rfl (Nat.le_of_ble_eq_true rfl) (Nat.le_of_ble_eq_true rfl) (Nat.le_of_ble_eq_true rfl) (Nat.le_of_ble_eq_true rfl) (Nat.le_of_ble_eq_true rfl) (st2 := []) (k2 := 0) (g2 := 0) rfl rfl rfl ?_
    refine zHeap (h2 := zput h a (some (.inl (7, .inl (goF f 7 (bnc c (-1)) e))))) rfl ?_
    refine hV.iload 0 dX2_goOn_42 rfl ?_
    by_cases c44_5 : (f (0 + c)) < 0
    · refine hV.if_lt_t (tgt := 60) dX2_goOn_44 (by decide) c44_5 ?_
      exact hE.2.2.2 dX2_goOn_60 rfl (by decide) (by decide) (zRv (congrArg (fun z => zput h a (some (.inl (7, .inl z)))) (goF_c2 (d := 7) c26_1 c44_5).symm) rfl)
    · refine hV.if_lt_f (tgt := 60) dX2_goOn_44 (by decide) c44_5 ?_
      refine hV.aload_n 1 dX2_goOn_47 rfl ?_
      refine hV.iload_n 2 dX2_goOn_48 rfl ?_
      refine hV.iconst (v := 1) dX2_goOn_49 (by decide) ?_
      refine hV.iadd dX2_goOn_50 ?_
      refine zTop (v := 1) (by decide) ?_
      refine hV.iload_n 3 dX2_goOn_51 rfl ?_
      refine hV.iconst (v := 1) dX2_goOn_52 (by decide) ?_
      refine hV.callSN1 (rest := [.int 1, .ref q]) dX2_goOn_53 (c_X4_bounce G (c := c) (s := 1) (by omega) (Or.inl rfl)) my_X4_bounce ks_X2_30 rfl rfl (Nat.le_of_ble_eq_true rfl) (Nat.le_of_ble_eq_true rfl) (Nat.le_of_ble_eq_true rfl) (Nat.le_of_ble_eq_true rfl) (Nat.le_of_ble_eq_true rfl) (st2 := [.int (nI (bnc c 1)), .int 1, .ref q]) (k2 := 0) (g2 := 0) rfl rfl rfl ?_
      have hbn6 := bnc_lt (c := c) (s := 1) (by omega)
      refine hV.aload_n 4 dX2_goOn_56 rfl ?_
      refine hV.callS1 (rest := []) dX2_goOn_57 (c_goOn_7 G ((zput_ne hqa).trans hpins) zput_at hqa (bnc_lt hc)) my_X2_goOn ks_X2_40 rfl rfl (Nat.le_of_ble_eq_true rfl) (Nat.le_of_ble_eq_true rfl) (Nat.le_of_ble_eq_true rfl) (Nat.le_of_ble_eq_true rfl) (Nat.le_of_ble_eq_true rfl) (st2 := []) (k2 := 0) (g2 := 0) rfl rfl rfl ?_
      refine zHeap (h2 := zput h a (some (.inl (7, .inl (goF f 7 (bnc c 1) (goF f 7 (bnc c (-1)) e)))))) zput_zput ?_
      exact hE.2.2.2 dX2_goOn_60 rfl (by decide) (by decide) (zRv (congrArg (fun z => zput h a (some (.inl (7, .inl z)))) (goF_c4 (d := 7) c26_1 c44_5).symm) rfl)

set_option maxRecDepth 100000 in
set_option maxHeartbeats 4000000 in
theorem c_X2_goAllWays {l : Launch} {D : va_G} {base : Nat} (G : l.stackTraces = false) {h : zH} {n : Nat} {b q : Nat} {f : Nat → Int32} {π : zB} (hq : q < b ∨ b + 3 < q) (hpins : h q = some (.inl (56, .inl f))) {c : Nat} (hc : c < 7) :
    zCt l D base 11 yX2_goAllWays w_X2_goAllWays [.ref b, .ref q, .int (nI c)] (setP h b π) n 0 0 (zR none (setP h b (gawP f c π)) n) := by
  refine zCt.of G (by decide) (Nat.le_of_ble_eq_true rfl) (fun Sx V X hV hE hX => ?_)
  show V 0 [(0, .ref b), (1, .ref q), (2, .int (nI c))] [] (setP h b π) n 0 0
  refine hV.aload_n 0 dX2_goAllWays_0 rfl ?_
  refine hV.getf dX2_goAllWays_1 fl_X2_15 P_o rfl ?_
  refine hV.iconst (v := 0) dX2_goAllWays_4 (by decide) ?_
  refine hV.callS1 (rest := []) dX2_goAllWays_5 (c_J7_fill_53178 G (v := 0) P_a1 (by decide)) my_J7_fill_53178 ks_X2_21 rfl rfl (Nat.le_of_ble_eq_true rfl) (Nat.le_of_ble_eq_true rfl) (Nat.le_of_ble_eq_true rfl) (Nat.le_of_ble_eq_true rfl) (Nat.le_of_ble_eq_true rfl) (st2 := []) (k2 := 0) (g2 := 0) rfl rfl rfl ?_
  refine zHeap (h2 := setP h b (sa π 1 (filF (π 1) 7 0))) P_q1 ?_
  refine hV.aload_n 1 dX2_goAllWays_8 rfl ?_
  refine hV.iconst (v := 0) dX2_goAllWays_9 (by decide) ?_
  refine hV.iload_n 2 dX2_goAllWays_10 rfl ?_
  refine hV.aload_n 0 dX2_goAllWays_11 rfl ?_
  refine hV.getf dX2_goAllWays_12 fl_X2_15 P_o rfl ?_
  refine hV.callS1 (rest := []) dX2_goAllWays_15 (c_goOn_8 G (c := c) ((zobj_out hq).trans hpins) P_a1 (by omega) hc) my_X2_goOn ks_X2_40 rfl rfl (Nat.le_of_ble_eq_true rfl) (Nat.le_of_ble_eq_true rfl) (Nat.le_of_ble_eq_true rfl) (Nat.le_of_ble_eq_true rfl) (Nat.le_of_ble_eq_true rfl) (st2 := []) (k2 := 0) (g2 := 0) rfl rfl rfl ?_
  refine zHeap (h2 := setP h b (sa (sa π 1 (filF (π 1) 7 0)) 1 (goF f 8 c ((sa π 1 (filF (π 1) 7 0)) 1)))) P_q1 ?_
  refine zHeap (h2 := setP h b (sa π 1 (goF f 8 c ((sa π 1 (filF (π 1) 7 0)) 1)))) (by rw [sa_sa]) ?_
  exact hE.2.2.2 dX2_goAllWays_18 rfl (by decide) (by decide) (zRv (by rfl) rfl)

