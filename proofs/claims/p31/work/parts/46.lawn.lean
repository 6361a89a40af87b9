/-! The law's methods: ways by all paths, copy, cell -/
def cellL (f : Nat → Int32) (L k : Nat) : Int32 := if L ≤ k then nI (1327217885 * (k + 1)) else f k
def bitL (i j : Nat) : Int32 := if (nI i >>> (nI j &&& 31)) &&& 1 = 1 then 1 else -1
theorem bitL_pm (i j : Nat) : bitL i j = 1 ∨ bitL i j = -1 := by
  unfold bitL
  split
  · exact Or.inl rfl
  · exact Or.inr rfl
def ptI (s q b : Int32) : Int32 := if s = 0 then 0 else if q = 0 then 1 else if q = b then 1 else 0
def ptL (pins : Nat → Int32) (i c : Nat) : Nat → Nat × Int32
  | 0 => (c, 1)
  | j + 1 => (bnc (ptL pins i c j).1 (bitL i j), ptI (ptL pins i c j).2 (pins ((7 * j) + (ptL pins i c j).1)) (bitL i j))
def z8L (w : Nat → Int32) : Nat → Int32 := va_up (va_up (va_up (va_up (va_up (va_up (va_up (va_up w 0 0) 1 0) 2 0) 3 0) 4 0) 5 0) 6 0) 7 0
def wyI (s : Int32) : Int32 := if s = 0 then 0 else 1
def wyS (w : Nat → Int32) (q : Nat × Int32) : Nat → Int32 := va_up (va_up w q.1 (w q.1 + wyI q.2)) 7 (w 7 + wyI q.2)
def wyN (pins : Nat → Int32) (c : Nat) (w : Nat → Int32) : Nat → Nat → Int32
  | 0 => w
  | i + 1 => wyS (wyN pins c w i) (ptL pins i c 8)
def wyL (pins : Nat → Int32) (c : Nat) (w : Nat → Int32) : Nat → Int32 := wyN pins c (z8L w) 256
theorem ptL_lt (pins : Nat → Int32) (i : Nat) {c : Nat} (hc : c < 7) : ∀ j, (ptL pins i c j).1 < 7
  | 0 => hc
  | j + 1 => bnc_lt (ptL_lt pins i hc j)
set_option maxRecDepth 100000 in
set_option maxHeartbeats 1000000 in
theorem c_L_cell {l : Launch} {D : va_G} {base : Nat} (G : l.stackTraces = false) {h : zH} {n : Nat} {a L k : Nat} {f : Nat → Int32} (ha : h a = some (.inl (L, .inl f))) (hL : L < 2 ^ 31) (hk : k < 2 ^ 31) :
    zCt l D base 1 yL_cell w_L_cell [.ref a, .int (nI k)] (h) n 0 0 (zR (some (.int (cellL f L k))) (h) (n)) := by
  refine zCt.of G (by decide) (Nat.le_of_ble_eq_true rfl) (fun Sx V X hV hE hX => ?_)
  show V 0 [(0, .ref a), (1, .int (nI k))] [] (h) n 0 0
  refine hV.iload_n 1 dL_cell_0 rfl ?_
  refine hV.aload_n 0 dL_cell_1 rfl ?_
  refine hV.alen (v := nI L) dL_cell_2 ha rfl ?_
  by_cases c3_1 : L ≤ k
  · refine hV.icmp_ge_t (tgt := 12) dL_cell_3 (by decide) ((nI_leI (a := L) (b := k) (by omega) (by omega)).mpr c3_1) ?_
    refine hV.ldc dL_cell_12 kc_L_7 ?_
    refine hV.iload_n 1 dL_cell_14 rfl ?_
    refine hV.iconst (v := 1) dL_cell_15 (by decide) ?_
    refine hV.iaddN (a := k) (b := 1) dL_cell_16 ?_
    refine hV.imulN (a := 1327217885) (b := k + 1) dL_cell_17 ?_
    exact hE.1 dL_cell_18 rfl rfl (by decide) (by decide) (zRi (by unfold cellL; rw [if_pos c3_1]) rfl rfl)
  · refine hV.icmp_ge_f (tgt := 12) dL_cell_3 (by decide) (fun q => absurd ((nI_leI (a := L) (b := k) (by omega) (by omega)).mp q) c3_1) ?_
    refine hV.aload_n 0 dL_cell_6 rfl ?_
    refine hV.iload_n 1 dL_cell_7 rfl ?_
    refine hV.iald (j := k) dL_cell_8 ha (zix_nI (by omega)) (by omega) ?_
    refine hV.goto (tgt := 18) dL_cell_9 (by decide) ?_
    exact hE.1 dL_cell_18 rfl rfl (by decide) (by decide) (zRi (by unfold cellL; rw [if_neg c3_1]) rfl rfl)

set_option maxRecDepth 100000 in
set_option maxHeartbeats 1000000 in
theorem c_L_copy {l : Launch} {D : va_G} {base : Nat} (G : l.stackTraces = false) {h : zH} {n : Nat} {a b M : Nat} {f f2 : Nat → Int32} (ha : h a = some (.inl (M, .inl f))) (hb : h b = some (.inl (M, .inl f2))) (hab : a ≠ b) (hM : M < 2 ^ 31) :
    zCt l D base 1 yL_copy w_L_copy [.ref a, .ref b] (h) n 0 0 (zR none (zput h b (some (.inl (M, .inl (cpz f2 f M))))) (n)) := by
  refine zCt.of G (by decide) (Nat.le_of_ble_eq_true rfl) (fun Sx V X hV hE hX => ?_)
  show V 0 [(0, .ref a), (1, .ref b)] [] (h) n 0 0
  refine zHeap (h2 := zput h b (some (.inl (M, .inl (cpz f2 f 0))))) (by rw [show cpz f2 f 0 = f2 from by funext k; unfold cpz; rw [if_neg (by omega)], zput_self hb]) ?_
  refine hV.iconst (v := 0) dL_copy_0 (by decide) ?_
  refine hV.istore_n (ls2 := [(2, .int 0), (0, .ref a), (1, .ref b)]) dL_copy_1 (by decide) rfl ?_
  have loop : ∀ (r i : Nat) , i + r = M → V 2 [(2, .int (nI i)), (0, .ref a), (1, .ref b)] [] (zput h b (some (.inl (M, .inl (cpz f2 f i))))) n 0 0 := by
    intro r
    induction r with
    | zero =>
      intro i  hi 
      refine hV.iload_n 0 dL_copy_2 rfl ?_
      refine hV.aload_n 1 dL_copy_3 rfl ?_
      refine hV.alen (v := nI M) dL_copy_4 ((zput_ne (by omega)).trans ha) rfl ?_
      refine hV.icmp_ge_t (tgt := 20) dL_copy_5 (by decide) ((nI_leI (a := M) (b := i) (by omega) (by omega)).mpr (by omega)) ?_
      exact hE.2.2.2 dL_copy_20 rfl (by decide) (by decide) (zRv (by have e : i = M := (by omega); subst e; rfl) rfl)
    | succ r ih =>
      intro i  hi 
      refine hV.iload_n 0 dL_copy_2 rfl ?_
      refine hV.aload_n 1 dL_copy_3 rfl ?_
      refine hV.alen (v := nI M) dL_copy_4 ((zput_ne (by omega)).trans ha) rfl ?_
      refine hV.icmp_ge_f (tgt := 20) dL_copy_5 (by decide) (fun q => absurd ((nI_leI (a := M) (b := i) (by omega) (by omega)).mp q) (by omega)) ?_
      refine hV.aload_n 2 dL_copy_8 rfl ?_
      refine hV.iload_n 0 dL_copy_9 rfl ?_
      refine hV.aload_n 1 dL_copy_10 rfl ?_
      refine hV.iload_n 0 dL_copy_11 rfl ?_
      refine hV.iald (j := i) dL_copy_12 ((zput_ne (by omega)).trans ha) (zix_nI (by omega)) (by omega) ?_
      refine hV.iast (j := i) dL_copy_13 zput_at (zix_nI (by omega)) (by omega) zput_zput ?_
      refine hV.iinc 0 (v := nI (i + 1)) (ls2 := [(2, .int (nI (i + 1))), (0, .ref a), (1, .ref b)]) dL_copy_14 rfl (nI_1 _) (by decide) rfl ?_
      refine hV.goto (tgt := 2) dL_copy_17 (by decide) ?_
      refine zHeap (h2 := zput h b (some (.inl (M, .inl (cpz f2 f (i + 1)))))) (by rw [cpz_s]) ?_
      exact ih (i + 1) (by omega)
  exact loop (M) 0 (by omega)

set_option maxRecDepth 100000 in
set_option maxHeartbeats 1000000 in
theorem c_L_ways {l : Launch} {D : va_G} {base : Nat} (G : l.stackTraces = false) {h : zH} {n : Nat} {qp qw c : Nat} {pins w : Nat → Int32} (hc : c < 7) (hp : h qp = some (.inl (56, .inl pins))) (hw : h qw = some (.inl (8, .inl w))) (hne : qp ≠ qw) :
    zCt l D base 1 yL_ways w_L_ways [.int (nI c), .ref qp, .ref qw] (h) n 0 0 (zR none (zput h qw (some (.inl (8, .inl (wyL pins c w))))) (n)) := by
  refine zCt.of G (by decide) (Nat.le_of_ble_eq_true rfl) (fun Sx V X hV hE hX => ?_)
  show V 0 [(0, .int (nI c)), (1, .ref qp), (2, .ref qw)] [] (h) n 0 0
  refine zHeap (h2 := zput h qw (some (.inl (8, .inl w)))) (by rw [zput_self hw]) ?_
  refine hV.iconst (v := 0) dL_ways_0 (by decide) ?_
  refine hV.istore_n (ls2 := [(3, .int 0), (0, .int (nI c)), (1, .ref qp), (2, .ref qw)]) dL_ways_1 (by decide) rfl ?_
  refine hV.iload_n 0 dL_ways_2 rfl ?_
  refine hV.bipush (v := 8) dL_ways_3 (by decide) ?_
  refine hV.icmp_ge_f (tgt := 18) dL_ways_5 (by decide) (by decide) ?_
  refine hV.aload_n 3 dL_ways_8 rfl ?_
  refine hV.iload_n 0 dL_ways_9 rfl ?_
  refine hV.iconst (v := 0) dL_ways_10 (by decide) ?_
  refine hV.iast (j := 0) dL_ways_11 zput_at ⟨by decide, by decide⟩ (by decide) zput_zput ?_
  refine hV.iinc 0 (v := 1) (ls2 := [(3, .int 1), (0, .int (nI c)), (1, .ref qp), (2, .ref qw)]) dL_ways_12 rfl (by decide) (by decide) rfl ?_
  refine hV.goto (tgt := 2) dL_ways_15 (by decide) ?_
  refine hV.iload_n 0 dL_ways_2 rfl ?_
  refine hV.bipush (v := 8) dL_ways_3 (by decide) ?_
  refine hV.icmp_ge_f (tgt := 18) dL_ways_5 (by decide) (by decide) ?_
  refine hV.aload_n 3 dL_ways_8 rfl ?_
  refine hV.iload_n 0 dL_ways_9 rfl ?_
  refine hV.iconst (v := 0) dL_ways_10 (by decide) ?_
  refine hV.iast (j := 1) dL_ways_11 zput_at ⟨by decide, by decide⟩ (by decide) zput_zput ?_
  refine hV.iinc 0 (v := 2) (ls2 := [(3, .int 2), (0, .int (nI c)), (1, .ref qp), (2, .ref qw)]) dL_ways_12 rfl (by decide) (by decide) rfl ?_
  refine hV.goto (tgt := 2) dL_ways_15 (by decide) ?_
  refine hV.iload_n 0 dL_ways_2 rfl ?_
  refine hV.bipush (v := 8) dL_ways_3 (by decide) ?_
  refine hV.icmp_ge_f (tgt := 18) dL_ways_5 (by decide) (by decide) ?_
  refine hV.aload_n 3 dL_ways_8 rfl ?_
  refine hV.iload_n 0 dL_ways_9 rfl ?_
  refine hV.iconst (v := 0) dL_ways_10 (by decide) ?_
  refine hV.iast (j := 2) dL_ways_11 zput_at ⟨by decide, by decide⟩ (by decide) zput_zput ?_
  refine hV.iinc 0 (v := 3) (ls2 := [(3, .int 3), (0, .int (nI c)), (1, .ref qp), (2, .ref qw)]) dL_ways_12 rfl (by decide) (by decide) rfl ?_
  refine hV.goto (tgt := 2) dL_ways_15 (by decide) ?_
  refine hV.iload_n 0 dL_ways_2 rfl ?_
  refine hV.bipush (v := 8) dL_ways_3 (by decide) ?_
  refine hV.icmp_ge_f (tgt := 18) dL_ways_5 (by decide) (by decide) ?_
  refine hV.aload_n 3 dL_ways_8 rfl ?_
  refine hV.iload_n 0 dL_ways_9 rfl ?_
  refine hV.iconst (v := 0) dL_ways_10 (by decide) ?_
  refine hV.iast (j := 3) dL_ways_11 zput_at ⟨by decide, by decide⟩ (by decide) zput_zput ?_
  refine hV.iinc 0 (v := 4) (ls2 := [(3, .int 4), (0, .int (nI c)), (1, .ref qp), (2, .ref qw)]) dL_ways_12 rfl (by decide) (by decide) rfl ?_
  refine hV.goto (tgt := 2) dL_ways_15 (by decide) ?_
  refine hV.iload_n 0 dL_ways_2 rfl ?_
  refine hV.bipush (v := 8) dL_ways_3 (by decide) ?_
  refine hV.icmp_ge_f (tgt := 18) dL_ways_5 (by decide) (by decide) ?_
  refine hV.aload_n 3 dL_ways_8 rfl ?_
  refine hV.iload_n 0 dL_ways_9 rfl ?_
  refine hV.iconst (v := 0) dL_ways_10 (by decide) ?_
  refine hV.iast (j := 4) dL_ways_11 zput_at ⟨by decide, by decide⟩ (by decide) zput_zput ?_
  refine hV.iinc 0 (v := 5) (ls2 := [(3, .int 5), (0, .int (nI c)), (1, .ref qp), (2, .ref qw)]) dL_ways_12 rfl (by decide) (by decide) rfl ?_
  refine hV.goto (tgt := 2) dL_ways_15 (by decide) ?_
  refine hV.iload_n 0 dL_ways_2 rfl ?_
  refine hV.bipush (v := 8) dL_ways_3 (by decide) ?_
  refine hV.icmp_ge_f (tgt := 18) dL_ways_5 (by decide) (by decide) ?_
  refine hV.aload_n 3 dL_ways_8 rfl ?_
  refine hV.iload_n 0 dL_ways_9 rfl ?_
  refine hV.iconst (v := 0) dL_ways_10 (by decide) ?_
  refine hV.iast (j := 5) dL_ways_11 zput_at ⟨by decide, by decide⟩ (by decide) zput_zput ?_
  refine hV.iinc 0 (v := 6) (ls2 := [(3, .int 6), (0, .int (nI c)), (1, .ref qp), (2, .ref qw)]) dL_ways_12 rfl (by decide) (by decide) rfl ?_
  refine hV.goto (tgt := 2) dL_ways_15 (by decide) ?_
  refine hV.iload_n 0 dL_ways_2 rfl ?_
  refine hV.bipush (v := 8) dL_ways_3 (by decide) ?_
  refine hV.icmp_ge_f (tgt := 18) dL_ways_5 (by decide) (by decide) ?_
  refine hV.aload_n 3 dL_ways_8 rfl ?_
  refine hV.iload_n 0 dL_ways_9 rfl ?_
  refine hV.iconst (v := 0) dL_ways_10 (by decide) ?_
  refine hV.iast (j := 6) dL_ways_11 zput_at ⟨by decide, by decide⟩ (by decide) zput_zput ?_
  refine hV.iinc 0 (v := 7) (ls2 := [(3, .int 7), (0, .int (nI c)), (1, .ref qp), (2, .ref qw)]) dL_ways_12 rfl (by decide) (by decide) rfl ?_
  refine hV.goto (tgt := 2) dL_ways_15 (by decide) ?_
  refine hV.iload_n 0 dL_ways_2 rfl ?_
  refine hV.bipush (v := 8) dL_ways_3 (by decide) ?_
  refine hV.icmp_ge_f (tgt := 18) dL_ways_5 (by decide) (by decide) ?_
  refine hV.aload_n 3 dL_ways_8 rfl ?_
  refine hV.iload_n 0 dL_ways_9 rfl ?_
  refine hV.iconst (v := 0) dL_ways_10 (by decide) ?_
  refine hV.iast (j := 7) dL_ways_11 zput_at ⟨by decide, by decide⟩ (by decide) zput_zput ?_
  refine hV.iinc 0 (v := 8) (ls2 := [(3, .int 8), (0, .int (nI c)), (1, .ref qp), (2, .ref qw)]) dL_ways_12 rfl (by decide) (by decide) rfl ?_
  refine hV.goto (tgt := 2) dL_ways_15 (by decide) ?_
  refine hV.iload_n 0 dL_ways_2 rfl ?_
  refine hV.bipush (v := 8) dL_ways_3 (by decide) ?_
  refine hV.icmp_ge_t (tgt := 18) dL_ways_5 (by decide) (by decide) ?_
  refine zHeap (h2 := zput h qw (some (.inl (8, .inl (z8L w))))) rfl ?_
  obtain ⟨w0, hw0⟩ : ∃ z : Nat → Int32, z = z8L w := ⟨_, rfl⟩
  rw [← hw0]
  refine hV.pick [1, 2, 3] (ls2 := [(0, .int (nI c)), (1, .ref qp), (2, .ref qw)]) rfl ?_
  have hbn : ∀ (c9 : Nat) (s9 : Int32) (H9 : zH) (j9 i9 : Nat) (x9 : Int32), c9 < 7 → (s9 = 1 ∨ s9 = -1) → V 126 [(4, .int (nI (bnc c9 s9))), (7, .int s9), (6, .int (nI j9)), (5, .int x9), (3, .int (nI i9)), (0, .int (nI c)), (1, .ref qp), (2, .ref qw)] [] (H9) n 0 0 → V 96 [(7, .int s9), (4, .int (nI c9)), (6, .int (nI j9)), (5, .int x9), (3, .int (nI i9)), (0, .int (nI c)), (1, .ref qp), (2, .ref qw)] [] (H9) n 0 0 := by
    intro c9 s9 H9 j9 i9  x9 hc9 hs9 q
    rcases hs9 with rfl | rfl
    · skip
      refine hV.iload 1 dL_ways_96 rfl ?_
      refine hV.iload 0 dL_ways_98 rfl ?_
      refine hV.iaddN (a := c9) (b := 1) dL_ways_100 ?_
      refine hV.if_lt_f (tgt := 114) dL_ways_101 (by decide) (fun q => absurd ((nI_ltI (a := c9 + 1) (b := 0) (by omega) (by omega)).mp q) (by omega)) ?_
      refine hV.iload 1 dL_ways_104 rfl ?_
      refine hV.iload 0 dL_ways_106 rfl ?_
      refine hV.iaddN (a := c9) (b := 1) dL_ways_108 ?_
      refine hV.bipush (v := 6) dL_ways_109 (by decide) ?_
      by_cases c111_1 : c9 + 1 ≤ 6
      · refine hV.icmp_le_t (tgt := 119) dL_ways_111 (by decide) ((nI_leI (a := c9 + 1) (b := 6) (by omega) (by omega)).mpr c111_1) ?_
        refine hV.iload 1 dL_ways_119 rfl ?_
        refine hV.iload 0 dL_ways_121 rfl ?_
        refine hV.iaddN (a := c9) (b := 1) dL_ways_123 ?_
        refine hV.istore (ls2 := [(4, .int (nI (c9 + 1))), (7, .int 1), (6, .int (nI j9)), (5, .int x9), (3, .int (nI i9)), (0, .int (nI c)), (1, .ref qp), (2, .ref qw)]) dL_ways_124 (by decide) rfl ?_
        exact (by have e9 : bnc c9 1 = c9 + 1 := (by unfold bnc; rw [if_pos rfl, if_pos (by omega)]); rw [e9] at q; exact q)
      · refine hV.icmp_le_f (tgt := 119) dL_ways_111 (by decide) (fun q => absurd ((nI_leI (a := c9 + 1) (b := 6) (by omega) (by omega)).mp q) c111_1) ?_
        refine hV.iload 1 dL_ways_114 rfl ?_
        refine hV.goto (tgt := 124) dL_ways_116 (by decide) ?_
        refine hV.istore (ls2 := [(4, .int (nI c9)), (7, .int 1), (6, .int (nI j9)), (5, .int x9), (3, .int (nI i9)), (0, .int (nI c)), (1, .ref qp), (2, .ref qw)]) dL_ways_124 (by decide) rfl ?_
        exact (by have e9 : bnc c9 1 = c9 := (by unfold bnc; rw [if_pos rfl, if_neg (by omega)]); rw [e9] at q; exact q)
    · cases c9 with
      | zero =>
        show V 96 [(7, .int (-1)), (4, .int 0), (6, .int (nI j9)), (5, .int x9), (3, .int (nI i9)), (0, .int (nI c)), (1, .ref qp), (2, .ref qw)] [] (H9) n 0 0
        refine hV.iload 1 dL_ways_96 rfl ?_
        refine hV.iload 0 dL_ways_98 rfl ?_
        refine hV.iadd dL_ways_100 ?_
        refine zTop (v := (-1)) (by decide) ?_
        refine hV.if_lt_t (tgt := 114) dL_ways_101 (by decide) (by decide) ?_
        refine hV.iload 1 dL_ways_114 rfl ?_
        refine hV.goto (tgt := 124) dL_ways_116 (by decide) ?_
        refine hV.istore (ls2 := [(4, .int 0), (7, .int (-1)), (6, .int (nI j9)), (5, .int x9), (3, .int (nI i9)), (0, .int (nI c)), (1, .ref qp), (2, .ref qw)]) dL_ways_124 (by decide) rfl ?_
        exact (q)
      | succ c9 =>
        refine hV.iload 1 dL_ways_96 rfl ?_
        refine hV.iload 0 dL_ways_98 rfl ?_
        refine hV.iadd dL_ways_100 ?_
        refine zTop (v := nI c9) (zI_m1 c9) ?_
        refine hV.if_lt_f (tgt := 114) dL_ways_101 (by decide) (fun q => absurd ((nI_ltI (a := c9) (b := 0) (by omega) (by omega)).mp q) (by omega)) ?_
        refine hV.iload 1 dL_ways_104 rfl ?_
        refine hV.iload 0 dL_ways_106 rfl ?_
        refine hV.iadd dL_ways_108 ?_
        refine zTop (v := nI c9) (zI_m1 c9) ?_
        refine hV.bipush (v := 6) dL_ways_109 (by decide) ?_
        refine hV.icmp_le_t (tgt := 119) dL_ways_111 (by decide) ((nI_leI (a := c9) (b := 6) (by omega) (by omega)).mpr (by omega)) ?_
        refine hV.iload 1 dL_ways_119 rfl ?_
        refine hV.iload 0 dL_ways_121 rfl ?_
        refine hV.iadd dL_ways_123 ?_
        refine zTop (v := nI c9) (zI_m1 c9) ?_
        refine hV.istore (ls2 := [(4, .int (nI c9)), (7, .int (-1)), (6, .int (nI j9)), (5, .int x9), (3, .int (nI i9)), (0, .int (nI c)), (1, .ref qp), (2, .ref qw)]) dL_ways_124 (by decide) rfl ?_
        exact (q)
  refine hV.iconst (v := 0) dL_ways_18 (by decide) ?_
  refine hV.istore_n (ls2 := [(3, .int 0), (0, .int (nI c)), (1, .ref qp), (2, .ref qw)]) dL_ways_19 (by decide) rfl ?_
  have loop : ∀ (r i : Nat) (w3 : Nat → Int32), i + r = 256 → (w3 = wyN pins c w0 i) → V 20 [(3, .int (nI i)), (0, .int (nI c)), (1, .ref qp), (2, .ref qw)] [] (zput h qw (some (.inl (8, .inl w3)))) n 0 0 := by
    intro r
    induction r with
    | zero =>
      intro i w3 hi he
      refine hV.iload_n 0 dL_ways_20 rfl ?_
      refine hV.sipush (v := 256) dL_ways_21 (by decide) ?_
      refine hV.icmp_ge_t (tgt := 172) dL_ways_24 (by decide) ((nI_leI (a := 256) (b := i) (by omega) (by omega)).mpr (by omega)) ?_
      exact hE.2.2.2 dL_ways_172 rfl (by decide) (by decide) (zRv (by have e : i = 256 := (by omega); subst e; rw [he, hw0]; rfl) rfl)
    | succ r ih =>
      intro i w3 hi he
      refine hV.iload_n 0 dL_ways_20 rfl ?_
      refine hV.sipush (v := 256) dL_ways_21 (by decide) ?_
      refine hV.icmp_ge_f (tgt := 172) dL_ways_24 (by decide) (fun q => absurd ((nI_leI (a := 256) (b := i) (by omega) (by omega)).mp q) (by omega)) ?_
      refine hV.iload_n 1 dL_ways_27 rfl ?_
      refine hV.istore (ls2 := [(4, .int (nI c)), (3, .int (nI i)), (0, .int (nI c)), (1, .ref qp), (2, .ref qw)]) dL_ways_28 (by decide) rfl ?_
      refine hV.iconst (v := 1) dL_ways_30 (by decide) ?_
      refine hV.istore (ls2 := [(5, .int 1), (4, .int (nI c)), (3, .int (nI i)), (0, .int (nI c)), (1, .ref qp), (2, .ref qw)]) dL_ways_31 (by decide) rfl ?_
      refine hV.iconst (v := 0) dL_ways_33 (by decide) ?_
      refine hV.istore (ls2 := [(6, .int 0), (5, .int 1), (4, .int (nI c)), (3, .int (nI i)), (0, .int (nI c)), (1, .ref qp), (2, .ref qw)]) dL_ways_34 (by decide) rfl ?_
      have loop2 : ∀ (r2 j : Nat) (c2 : Nat) (s2 : Int32), j + r2 = 8 → ((c2, s2) = ptL pins i c j) → (c2 < 7) → V 36 [(6, .int (nI j)), (4, .int (nI c2)), (5, .int s2), (3, .int (nI i)), (0, .int (nI c)), (1, .ref qp), (2, .ref qw)] [] (zput h qw (some (.inl (8, .inl w3)))) n 0 0 := by
        intro r2
        induction r2 with
        | zero =>
          intro j c2 s2 hj hq hc2
          refine hV.iload 0 dL_ways_36 rfl ?_
          refine hV.bipush (v := 8) dL_ways_38 (by decide) ?_
          refine hV.icmp_ge_t (tgt := 132) dL_ways_40 (by decide) ((nI_leI (a := 8) (b := j) (by omega) (by omega)).mpr (by omega)) ?_
          have e8 : j = 8 := by omega
          subst e8
          refine hV.pick [1, 2, 3, 4, 5, 6] (ls2 := [(4, .int (nI c2)), (5, .int s2), (3, .int (nI i)), (0, .int (nI c)), (1, .ref qp), (2, .ref qw)]) rfl ?_
          have j149 : V 149 [(4, .int (nI c2)), (5, .int s2), (3, .int (nI i)), (0, .int (nI c)), (1, .ref qp), (2, .ref qw)] [] (zput h qw (some (.inl (8, .inl (va_up w3 c2 (w3 c2 + wyI s2)))))) n 0 0 → V 132 [(4, .int (nI c2)), (5, .int s2), (3, .int (nI i)), (0, .int (nI c)), (1, .ref qp), (2, .ref qw)] [] (zput h qw (some (.inl (8, .inl w3)))) n 0 0 := by
            intro q
            refine hV.aload_n 5 dL_ways_132 rfl ?_
            refine hV.iload 0 dL_ways_133 rfl ?_
            refine hV.dup2 dL_ways_135 rfl rfl ?_
            refine hV.iald (j := c2) dL_ways_136 zput_at (zix_nI (by omega)) (by omega) ?_
            refine hV.iload 1 dL_ways_137 rfl ?_
            by_cases c139_2 : s2 = 0
            · refine hV.if_eq_t (tgt := 146) dL_ways_139 (by decide) c139_2 ?_
              refine hV.iconst (v := 0) dL_ways_146 (by decide) ?_
              refine hV.iadd dL_ways_147 ?_
              refine hV.iast (j := c2) dL_ways_148 zput_at (zix_nI (by omega)) (by omega) zput_zput ?_
              have e9 : va_up w3 c2 (w3 c2 + wyI s2) = va_up w3 c2 ((w3 c2) + 0) := by unfold wyI; rw [if_pos c139_2]
              rw [e9] at q
              exact q
            · refine hV.if_eq_f (tgt := 146) dL_ways_139 (by decide) c139_2 ?_
              refine hV.iconst (v := 1) dL_ways_142 (by decide) ?_
              refine hV.goto (tgt := 147) dL_ways_143 (by decide) ?_
              refine hV.iadd dL_ways_147 ?_
              refine hV.iast (j := c2) dL_ways_148 zput_at (zix_nI (by omega)) (by omega) zput_zput ?_
              have e9 : va_up w3 c2 (w3 c2 + wyI s2) = va_up w3 c2 ((w3 c2) + 1) := by unfold wyI; rw [if_neg c139_2]
              rw [e9] at q
              exact q
          refine j149 ?_
          have j166 : V 166 [(4, .int (nI c2)), (5, .int s2), (3, .int (nI i)), (0, .int (nI c)), (1, .ref qp), (2, .ref qw)] [] (zput h qw (some (.inl (8, .inl (wyS w3 (c2, s2)))))) n 0 0 → V 149 [(4, .int (nI c2)), (5, .int s2), (3, .int (nI i)), (0, .int (nI c)), (1, .ref qp), (2, .ref qw)] [] (zput h qw (some (.inl (8, .inl (va_up w3 c2 (w3 c2 + wyI s2)))))) n 0 0 := by
            intro q
            refine hV.aload_n 5 dL_ways_149 rfl ?_
            refine hV.bipush (v := 7) dL_ways_150 (by decide) ?_
            refine hV.dup2 dL_ways_152 rfl rfl ?_
            refine hV.iald (j := 7) dL_ways_153 zput_at ⟨by decide, by decide⟩ (by decide) ?_
            refine zTop (v := w3 7) ((va_ne (by omega)).trans rfl) ?_
            refine hV.iload 1 dL_ways_154 rfl ?_
            by_cases c156_3 : s2 = 0
            · refine hV.if_eq_t (tgt := 163) dL_ways_156 (by decide) c156_3 ?_
              refine hV.iconst (v := 0) dL_ways_163 (by decide) ?_
              refine hV.iadd dL_ways_164 ?_
              refine hV.iast (j := 7) dL_ways_165 zput_at ⟨by decide, by decide⟩ (by decide) zput_zput ?_
              have e9 : wyS w3 (c2, s2) = va_up (va_up w3 c2 (w3 c2 + wyI s2)) 7 ((w3 7) + 0) := by unfold wyS wyI; rw [if_pos c156_3]
              rw [e9] at q
              exact q
            · refine hV.if_eq_f (tgt := 163) dL_ways_156 (by decide) c156_3 ?_
              refine hV.iconst (v := 1) dL_ways_159 (by decide) ?_
              refine hV.goto (tgt := 164) dL_ways_160 (by decide) ?_
              refine hV.iadd dL_ways_164 ?_
              refine hV.iast (j := 7) dL_ways_165 zput_at ⟨by decide, by decide⟩ (by decide) zput_zput ?_
              have e9 : wyS w3 (c2, s2) = va_up (va_up w3 c2 (w3 c2 + wyI s2)) 7 ((w3 7) + 1) := by unfold wyS wyI; rw [if_neg c156_3]
              rw [e9] at q
              exact q
          refine j166 ?_
          refine hV.iinc 2 (v := nI (i + 1)) (ls2 := [(3, .int (nI (i + 1))), (4, .int (nI c2)), (5, .int s2), (0, .int (nI c)), (1, .ref qp), (2, .ref qw)]) dL_ways_166 rfl (nI_1 _) (by decide) rfl ?_
          refine hV.goto (tgt := 20) dL_ways_169 (by decide) ?_
          refine hV.pick [0, 3, 4, 5] (ls2 := [(3, .int (nI (i + 1))), (0, .int (nI c)), (1, .ref qp), (2, .ref qw)]) rfl ?_
          exact ih (i + 1) _ (by omega) (by show _ = wyS (wyN pins c w0 i) (ptL pins i c 8); rw [← he, ← hq])
        | succ r2 ih =>
          intro j c2 s2 hj hq hc2
          refine hV.iload 0 dL_ways_36 rfl ?_
          refine hV.bipush (v := 8) dL_ways_38 (by decide) ?_
          refine hV.icmp_ge_f (tgt := 132) dL_ways_40 (by decide) (fun q => absurd ((nI_leI (a := 8) (b := j) (by omega) (by omega)).mp q) (by omega)) ?_
          have j60 : V 60 [(7, .int (bitL i j)), (6, .int (nI j)), (4, .int (nI c2)), (5, .int s2), (3, .int (nI i)), (0, .int (nI c)), (1, .ref qp), (2, .ref qw)] [] (zput h qw (some (.inl (8, .inl w3)))) n 0 0 → V 43 [(6, .int (nI j)), (4, .int (nI c2)), (5, .int s2), (3, .int (nI i)), (0, .int (nI c)), (1, .ref qp), (2, .ref qw)] [] (zput h qw (some (.inl (8, .inl w3)))) n 0 0 := by
            intro q
            refine hV.iload_n 3 dL_ways_43 rfl ?_
            refine hV.iload 0 dL_ways_44 rfl ?_
            refine hV.ishr dL_ways_46 ?_
            refine hV.iconst (v := 1) dL_ways_47 (by decide) ?_
            refine hV.iand dL_ways_48 ?_
            refine hV.iconst (v := 1) dL_ways_49 (by decide) ?_
            by_cases c50_4 : (((nI i) >>> ((nI j) &&& 31)) &&& 1) = 1
            · refine hV.icmp_ne_f (tgt := 57) dL_ways_50 (by decide) c50_4 ?_
              refine hV.iconst (v := 1) dL_ways_53 (by decide) ?_
              refine hV.goto (tgt := 58) dL_ways_54 (by decide) ?_
              refine hV.istore (ls2 := [(7, .int 1), (6, .int (nI j)), (4, .int (nI c2)), (5, .int s2), (3, .int (nI i)), (0, .int (nI c)), (1, .ref qp), (2, .ref qw)]) dL_ways_58 (by decide) rfl ?_
              have e9 : bitL i j = 1 := by unfold bitL; rw [if_pos c50_4]
              rw [e9] at q
              exact q
            · refine hV.icmp_ne_t (tgt := 57) dL_ways_50 (by decide) c50_4 ?_
              refine hV.iconst (v := (-1)) dL_ways_57 (by decide) ?_
              refine hV.istore (ls2 := [(7, .int (-1)), (6, .int (nI j)), (4, .int (nI c2)), (5, .int s2), (3, .int (nI i)), (0, .int (nI c)), (1, .ref qp), (2, .ref qw)]) dL_ways_58 (by decide) rfl ?_
              have e9 : bitL i j = (-1) := by unfold bitL; rw [if_neg c50_4]
              rw [e9] at q
              exact q
          refine j60 ?_
          obtain ⟨b, hb⟩ : ∃ z : Int32, z = bitL i j := ⟨_, rfl⟩
          rw [← hb]
          refine hV.aload_n 6 dL_ways_60 rfl ?_
          refine hV.bipush (v := 7) dL_ways_61 (by decide) ?_
          refine hV.iload 1 dL_ways_63 rfl ?_
          refine hV.imulN (a := 7) (b := j) dL_ways_65 ?_
          refine hV.iload 2 dL_ways_66 rfl ?_
          refine hV.iaddN (a := 7 * j) (b := c2) dL_ways_68 ?_
          refine hV.iald (j := (7 * j) + c2) dL_ways_69 ((zput_ne (by omega)).trans hp) (zix_nI (by omega)) (by omega) ?_
          refine hV.istore (ls2 := [(8, .int (pins ((7 * j) + c2))), (7, .int b), (6, .int (nI j)), (4, .int (nI c2)), (5, .int s2), (3, .int (nI i)), (0, .int (nI c)), (1, .ref qp), (2, .ref qw)]) dL_ways_70 (by decide) rfl ?_
          have j96 : V 96 [(7, .int b), (4, .int (nI c2)), (6, .int (nI j)), (5, .int (ptI s2 (pins ((7 * j) + c2)) b)), (3, .int (nI i)), (0, .int (nI c)), (1, .ref qp), (2, .ref qw)] [] (zput h qw (some (.inl (8, .inl w3)))) n 0 0 → V 72 [(8, .int (pins ((7 * j) + c2))), (7, .int b), (6, .int (nI j)), (4, .int (nI c2)), (5, .int s2), (3, .int (nI i)), (0, .int (nI c)), (1, .ref qp), (2, .ref qw)] [] (zput h qw (some (.inl (8, .inl w3)))) n 0 0 := by
            intro q
            refine hV.iload 4 dL_ways_72 rfl ?_
            by_cases c74_5 : s2 = 0
            · refine hV.if_eq_t (tgt := 93) dL_ways_74 (by decide) c74_5 ?_
              refine hV.iconst (v := 0) dL_ways_93 (by decide) ?_
              refine hV.istore (ls2 := [(5, .int 0), (8, .int (pins ((7 * j) + c2))), (7, .int b), (6, .int (nI j)), (4, .int (nI c2)), (3, .int (nI i)), (0, .int (nI c)), (1, .ref qp), (2, .ref qw)]) dL_ways_94 (by decide) rfl ?_
              refine hV.pick [2, 4, 3, 0, 5, 6, 7, 8] (ls2 := [(7, .int b), (4, .int (nI c2)), (6, .int (nI j)), (5, .int 0), (3, .int (nI i)), (0, .int (nI c)), (1, .ref qp), (2, .ref qw)]) rfl ?_
              have e9 : ptI s2 (pins ((7 * j) + c2)) b = 0 := by unfold ptI; rw [if_pos c74_5]
              rw [e9] at q
              exact q
            · refine hV.if_eq_f (tgt := 93) dL_ways_74 (by decide) c74_5 ?_
              refine hV.iload 0 dL_ways_77 rfl ?_
              by_cases c79_6 : (pins ((7 * j) + c2)) = 0
              · refine hV.if_eq_t (tgt := 89) dL_ways_79 (by decide) c79_6 ?_
                refine hV.iconst (v := 1) dL_ways_89 (by decide) ?_
                refine hV.goto (tgt := 94) dL_ways_90 (by decide) ?_
                refine hV.istore (ls2 := [(5, .int 1), (8, .int (pins ((7 * j) + c2))), (7, .int b), (6, .int (nI j)), (4, .int (nI c2)), (3, .int (nI i)), (0, .int (nI c)), (1, .ref qp), (2, .ref qw)]) dL_ways_94 (by decide) rfl ?_
                refine hV.pick [2, 4, 3, 0, 5, 6, 7, 8] (ls2 := [(7, .int b), (4, .int (nI c2)), (6, .int (nI j)), (5, .int 1), (3, .int (nI i)), (0, .int (nI c)), (1, .ref qp), (2, .ref qw)]) rfl ?_
                have e9 : ptI s2 (pins ((7 * j) + c2)) b = 1 := by unfold ptI; rw [if_neg c74_5, if_pos c79_6]
                rw [e9] at q
                exact q
              · refine hV.if_eq_f (tgt := 89) dL_ways_79 (by decide) c79_6 ?_
                refine hV.iload 0 dL_ways_82 rfl ?_
                refine hV.iload 1 dL_ways_84 rfl ?_
                by_cases c86_7 : (pins ((7 * j) + c2)) = b
                · refine hV.icmp_ne_f (tgt := 93) dL_ways_86 (by decide) c86_7 ?_
                  refine hV.iconst (v := 1) dL_ways_89 (by decide) ?_
                  refine hV.goto (tgt := 94) dL_ways_90 (by decide) ?_
                  refine hV.istore (ls2 := [(5, .int 1), (8, .int (pins ((7 * j) + c2))), (7, .int b), (6, .int (nI j)), (4, .int (nI c2)), (3, .int (nI i)), (0, .int (nI c)), (1, .ref qp), (2, .ref qw)]) dL_ways_94 (by decide) rfl ?_
                  refine hV.pick [2, 4, 3, 0, 5, 6, 7, 8] (ls2 := [(7, .int b), (4, .int (nI c2)), (6, .int (nI j)), (5, .int 1), (3, .int (nI i)), (0, .int (nI c)), (1, .ref qp), (2, .ref qw)]) rfl ?_
                  have e9 : ptI s2 (pins ((7 * j) + c2)) b = 1 := by unfold ptI; rw [if_neg c74_5, if_neg c79_6, if_pos c86_7]
                  rw [e9] at q
                  exact q
                · refine hV.icmp_ne_t (tgt := 93) dL_ways_86 (by decide) c86_7 ?_
                  refine hV.iconst (v := 0) dL_ways_93 (by decide) ?_
                  refine hV.istore (ls2 := [(5, .int 0), (8, .int (pins ((7 * j) + c2))), (7, .int b), (6, .int (nI j)), (4, .int (nI c2)), (3, .int (nI i)), (0, .int (nI c)), (1, .ref qp), (2, .ref qw)]) dL_ways_94 (by decide) rfl ?_
                  refine hV.pick [2, 4, 3, 0, 5, 6, 7, 8] (ls2 := [(7, .int b), (4, .int (nI c2)), (6, .int (nI j)), (5, .int 0), (3, .int (nI i)), (0, .int (nI c)), (1, .ref qp), (2, .ref qw)]) rfl ?_
                  have e9 : ptI s2 (pins ((7 * j) + c2)) b = 0 := by unfold ptI; rw [if_neg c74_5, if_neg c79_6, if_neg c86_7]
                  rw [e9] at q
                  exact q
          refine j96 ?_
          refine hbn _ _ _ _ _ _ hc2 (by rw [hb]; exact bitL_pm i j) ?_
          refine hV.iinc 2 (v := nI (j + 1)) (ls2 := [(6, .int (nI (j + 1))), (4, .int (nI (bnc c2 b))), (7, .int b), (5, .int (ptI s2 (pins ((7 * j) + c2)) b)), (3, .int (nI i)), (0, .int (nI c)), (1, .ref qp), (2, .ref qw)]) dL_ways_126 rfl (nI_1 _) (by decide) rfl ?_
          refine hV.goto (tgt := 36) dL_ways_129 (by decide) ?_
          refine hV.pick [0, 1, 3, 4, 5, 6, 7] (ls2 := [(6, .int (nI (j + 1))), (4, .int (nI (bnc c2 b))), (5, .int (ptI s2 (pins ((7 * j) + c2)) b)), (3, .int (nI i)), (0, .int (nI c)), (1, .ref qp), (2, .ref qw)]) rfl ?_
          exact ih (j + 1) _ _ (by omega) (by show _ = (bnc (ptL pins i c j).1 (bitL i j), ptI (ptL pins i c j).2 (pins ((7 * j) + (ptL pins i c j).1)) (bitL i j)); rw [← hq, ← hb]) (bnc_lt hc2)
      refine hV.pick [0, 2, 1, 3, 4, 5, 6] (ls2 := [(6, .int 0), (4, .int (nI c)), (5, .int 1), (3, .int (nI i)), (0, .int (nI c)), (1, .ref qp), (2, .ref qw)]) rfl ?_
      exact loop2 (8) 0 c 1 (by omega) rfl hc
  exact loop (256) 0 w0 (by omega) rfl

