/-! The face: the digest -/
def hsP (β : zB) : Nat → Int64 → Int64
  | 0, h => h
  | p + 1, h => hsN (fun w => tellV β p w) 5 (hsP β p h)
def hbV (β : zB) (m : Nat) (x : Int64) : Int64 := hsN (β 9) 3 (hsP β 7 (hsN (β 3) 8 (hsN (β 2) m (hsN (fun i => β 1 i + 1) 56 x))))
def hcW (β : zB) (c : Nat) : Nat → Int64 → Int64
  | 0, h => h
  | p + 1, h => 31 * (31 * hcW β c p h + Int32.toInt64 (cv β c p)) + Int32.toInt64 (gv β c p)
def hcV (β : zB) (td : Nat → Nat → Int32) (tu : Nat → Int32) (c : Nat) (x : Int64) : Int64 := 31 * hsN (td c) 4 (hcW β c 7 x) + Int32.toInt64 (tu c)
def hcN (β : zB) (td : Nat → Nat → Int32) (tu : Nat → Int32) : Nat → Int64 → Int64
  | 0, h => h
  | c + 1, h => hcV β td tu c (hcN β td tu c h)
def dgX (β : zB) (m : Nat) (s : Int32) (td : Nat → Nat → Int32) (tu : Nat → Int32) : Int64 := hcN β td tu 7 (hbV β m (31 * hsN (β 0) 17 3677 + Int32.toInt64 s))
def dgT (β : zB) (m : Nat) (s : Int32) (f : Nat → Int32) (L : Nat) (td : Nat → Nat → Int32) (tu : Nat → Int32) : Int64 := hsN f L (31 * (31 * (31 * dgX β m s td tu + Int32.toInt64 (bcC β 7).1) + UInt64.toInt64 (pbV β)) + Int32.toInt64 (nI L))

set_option maxRecDepth 100000 in
set_option maxHeartbeats 1000000 in
theorem c_X4_hashBoard {l : Launch} {D : va_G} {base : Nat} (G : l.stackTraces = false) {h : zH} {n : Nat} {a : Nat} {β τ : zB} {rf : Nat → Option Nat} {φ : Nat → Int32} {c π : zB} {sn : Option Nat} {o s : Int32} {m : Nat} (hm : β 0 16 = nI m) (hm3 : m ≤ 56) {x : Int64} :
    zCt l D base 5 yX4_hashBoard w_X4_hashBoard [.ref a, .long x] (zTo h a β τ o s rf φ c π sn) n 0 0 (zR (some (.long (hbV β m x))) (zTo h a β τ o s rf φ c π sn) (n)) := by
  refine zCt.of G (by decide) (Nat.le_of_ble_eq_true rfl) (fun Sx V X hV hE hX => ?_)
  show V 0 [(0, .ref a), (1, .long x)] [] (zTo h a β τ o s rf φ c π sn) n 0 0
  refine hV.lload_n 1 dX4_hashBoard_0 rfl ?_
  refine hV.lstore_n (ls2 := [(3, .long x), (0, .ref a), (1, .long x)]) dX4_hashBoard_1 (by decide) rfl ?_
  refine hV.iconst (v := 0) dX4_hashBoard_2 (by decide) ?_
  refine hV.istore (ls2 := [(5, .int 0), (3, .long x), (0, .ref a), (1, .long x)]) dX4_hashBoard_3 (by decide) rfl ?_
  have loopi : ∀ (ri i : Nat) (g1 : Int64), i + ri = 56 → (g1 = hsN (fun i => β 1 i + 1) i (x)) → V 5 [(5, .int (nI i)), (3, .long g1), (0, .ref a), (1, .long x)] [] (zTo h a β τ o s rf φ c π sn) n 0 0 := by
    intro ri
    induction ri with
    | zero =>
      intro i g1 hi h1
      refine hV.iload 0 dX4_hashBoard_5 rfl ?_
      refine hV.bipush (v := 56) dX4_hashBoard_7 (by decide) ?_
      refine hV.icmp_ge_t (tgt := 36) dX4_hashBoard_9 (by decide) ((nI_leI (a := 56) (b := i) (by omega) (by omega)).mpr (by omega)) ?_
      have ei : i = 56 := (by omega)
      rw [ei] at h1
      refine hV.lload_n 1 dX4_hashBoard_36 rfl ?_
      refine hV.aload_n 2 dX4_hashBoard_37 rfl ?_
      refine hV.getf (v := .ref (a + 1)) dX4_hashBoard_38 fl_X4_12 To_o rfl ?_
      refine hV.getf (v := .ref (a + 1 + 3)) dX4_hashBoard_41 fl_X4_237 To_B.1 rfl ?_
      refine hV.aload_n 2 dX4_hashBoard_44 rfl ?_
      refine hV.getf (v := .ref (a + 1)) dX4_hashBoard_45 fl_X4_12 To_o rfl ?_
      refine hV.getf (v := .ref (a + 1 + 1)) dX4_hashBoard_48 fl_X4_71 To_B.1 rfl ?_
      refine hV.bipush (v := 16) dX4_hashBoard_51 (by decide) ?_
      refine hV.iald (j := 16) dX4_hashBoard_53 (zobjAt.arr To_B 0 17 (by decide) rfl) ⟨by decide, by decide⟩ (by decide) ?_
      refine zTop (v := nI m) hm ?_
      refine hV.callS1 (rest := []) dX4_hashBoard_54 (c_X4_hashAll G (k := m) (zobjAt.arr To_B 2 56 (by decide) rfl) (by omega) (by decide)) my_X4_hashAll ks_X4_177 rfl rfl (Nat.le_of_ble_eq_true rfl) (Nat.le_of_ble_eq_true rfl) (Nat.le_of_ble_eq_true rfl) (Nat.le_of_ble_eq_true rfl) (Nat.le_of_ble_eq_true rfl) (st2 := [.long (hsN (β 2) m g1)]) (k2 := 0) (g2 := 0) rfl rfl rfl ?_
      refine hV.lstore_n (ls2 := [(3, .long (hsN (β 2) m g1)), (5, .int (nI i)), (0, .ref a), (1, .long x)]) dX4_hashBoard_57 (by decide) rfl ?_
      refine hV.lload_n 0 dX4_hashBoard_58 rfl ?_
      refine hV.aload_n 2 dX4_hashBoard_59 rfl ?_
      refine hV.getf (v := .ref (a + 1)) dX4_hashBoard_60 fl_X4_12 To_o rfl ?_
      refine hV.getf (v := .ref (a + 1 + 4)) dX4_hashBoard_63 fl_X4_141 To_B.1 rfl ?_
      refine hV.bipush (v := 8) dX4_hashBoard_66 (by decide) ?_
      refine hV.callS1 (rest := []) dX4_hashBoard_68 (c_X4_hashAll G (k := 8) (zobjAt.arr To_B 3 8 (by decide) rfl) (by omega) (by decide)) my_X4_hashAll ks_X4_177 rfl rfl (Nat.le_of_ble_eq_true rfl) (Nat.le_of_ble_eq_true rfl) (Nat.le_of_ble_eq_true rfl) (Nat.le_of_ble_eq_true rfl) (Nat.le_of_ble_eq_true rfl) (st2 := [.long (hsN (β 3) 8 (hsN (β 2) m g1))]) (k2 := 0) (g2 := 0) rfl rfl rfl ?_
      refine hV.lstore_n (ls2 := [(3, .long (hsN (β 3) 8 (hsN (β 2) m g1))), (5, .int (nI i)), (0, .ref a), (1, .long x)]) dX4_hashBoard_71 (by decide) rfl ?_
      refine hV.iconst (v := 0) dX4_hashBoard_72 (by decide) ?_
      refine hV.istore (ls2 := [(5, .int 0), (3, .long (hsN (β 3) 8 (hsN (β 2) m g1))), (0, .ref a), (1, .long x)]) dX4_hashBoard_73 (by decide) rfl ?_
      have loopp : ∀ (rp p : Nat) (g2 : Int64), p + rp = 7 → (g2 = hsP β p (hsN (β 3) 8 (hsN (β 2) m g1))) → V 75 [(5, .int (nI p)), (3, .long g2), (0, .ref a), (1, .long x)] [] (zTo h a β τ o s rf φ c π sn) n 0 0 := by
        intro rp
        induction rp with
        | zero =>
          intro p g2 hp h2
          refine hV.iload 0 dX4_hashBoard_75 rfl ?_
          refine hV.bipush (v := 7) dX4_hashBoard_77 (by decide) ?_
          refine hV.icmp_ge_t (tgt := 120) dX4_hashBoard_79 (by decide) ((nI_leI (a := 7) (b := p) (by omega) (by omega)).mpr (by omega)) ?_
          have ep : p = 7 := (by omega)
          rw [ep] at h2
          refine hV.lload_n 1 dX4_hashBoard_120 rfl ?_
          refine hV.aload_n 2 dX4_hashBoard_121 rfl ?_
          refine hV.getf (v := .ref (a + 1)) dX4_hashBoard_122 fl_X4_12 To_o rfl ?_
          refine hV.getf (v := .ref (a + 1 + 10)) dX4_hashBoard_125 fl_X4_147 To_B.1 rfl ?_
          refine hV.iconst (v := 3) dX4_hashBoard_128 (by decide) ?_
          refine hV.callS1 (rest := []) dX4_hashBoard_129 (c_X4_hashAll G (k := 3) (zobjAt.arr To_B 9 3 (by decide) rfl) (by omega) (by decide)) my_X4_hashAll ks_X4_177 rfl rfl (Nat.le_of_ble_eq_true rfl) (Nat.le_of_ble_eq_true rfl) (Nat.le_of_ble_eq_true rfl) (Nat.le_of_ble_eq_true rfl) (Nat.le_of_ble_eq_true rfl) (st2 := [.long (hsN (β 9) 3 g2)]) (k2 := 0) (g2 := 0) rfl rfl rfl ?_
          exact hE.2.1 dX4_hashBoard_132 rfl (by decide) (by decide) (zRl (by rw [h2, h1]; rfl) rfl rfl)
        | succ rp ih =>
          intro p g2 hp h2
          refine hV.iload 0 dX4_hashBoard_75 rfl ?_
          refine hV.bipush (v := 7) dX4_hashBoard_77 (by decide) ?_
          refine hV.icmp_ge_f (tgt := 120) dX4_hashBoard_79 (by decide) (fun q => absurd ((nI_leI (a := 7) (b := p) (by omega) (by omega)).mp q) (by omega)) ?_
          refine hV.iconst (v := 0) dX4_hashBoard_82 (by decide) ?_
          refine hV.istore (ls2 := [(6, .int 0), (5, .int (nI p)), (3, .long g2), (0, .ref a), (1, .long x)]) dX4_hashBoard_83 (by decide) rfl ?_
          have loopw : ∀ (rw w : Nat) (g3 : Int64), w + rw = 5 → (g3 = hsN (fun w => tellV β p w) w (g2)) → V 85 [(6, .int (nI w)), (5, .int (nI p)), (3, .long g3), (0, .ref a), (1, .long x)] [] (zTo h a β τ o s rf φ c π sn) n 0 0 := by
            intro rw
            induction rw with
            | zero =>
              intro w g3 hw h3
              refine hV.iload 0 dX4_hashBoard_85 rfl ?_
              refine hV.iconst (v := 4) dX4_hashBoard_87 (by decide) ?_
              refine hV.icmp_gt_t (tgt := 114) dX4_hashBoard_88 (by decide) ((nI_ltI (a := 4) (b := w) (by omega) (by omega)).mpr (by omega)) ?_
              have ew : w = 5 := (by omega)
              rw [ew] at h3
              refine hV.iinc 1 (v := nI (p + 1)) (ls2 := [(5, .int (nI (p + 1))), (6, .int (nI w)), (3, .long g3), (0, .ref a), (1, .long x)]) dX4_hashBoard_114 rfl (nI_1 _) (by decide) rfl ?_
              refine hV.goto (tgt := 75) dX4_hashBoard_117 (by decide) ?_
              refine hV.pick [0, 2, 3, 4] (ls2 := [(5, .int (nI (p + 1))), (3, .long g3), (0, .ref a), (1, .long x)]) rfl ?_
              exact ih (p + 1) _ (by omega) (by rw [h3, h2]; rfl)
            | succ rw ih =>
              intro w g3 hw h3
              refine hV.iload 0 dX4_hashBoard_85 rfl ?_
              refine hV.iconst (v := 4) dX4_hashBoard_87 (by decide) ?_
              refine hV.icmp_gt_f (tgt := 114) dX4_hashBoard_88 (by decide) (fun q => absurd ((nI_ltI (a := 4) (b := w) (by omega) (by omega)).mp q) (by omega)) ?_
              refine hV.lload_n 2 dX4_hashBoard_91 rfl ?_
              refine hV.aload_n 3 dX4_hashBoard_92 rfl ?_
              refine hV.getf (v := .ref (a + 1)) dX4_hashBoard_93 fl_X4_12 To_o rfl ?_
              refine hV.iload 1 dX4_hashBoard_96 rfl ?_
              refine hV.iload 0 dX4_hashBoard_98 rfl ?_
              refine zHeap (h2 := setB (zTo h a β τ o s rf φ c π sn) (a + 1) β) (To_B.set.symm) ?_
              refine hV.callV1 (rest := [.long g3]) dX4_hashBoard_100 (c_X0_tellPocket G (p := p) (w := w) (by omega) (by omega)) my_X0_tellPocket kv_X4_144 B_o rfl rfl rfl (Nat.le_of_ble_eq_true rfl) (Nat.le_of_ble_eq_true rfl) (Nat.le_of_ble_eq_true rfl) (Nat.le_of_ble_eq_true rfl) (Nat.le_of_ble_eq_true rfl) (st2 := [.int (tellV β p w), .long g3]) (k2 := 0) (g2 := 0) rfl rfl rfl ?_
              refine zHeap (h2 := zTo h a β τ o s rf φ c π sn) To_B' ?_
              refine hV.i2l dX4_hashBoard_103 rfl ?_
              refine hV.callS1 (rest := []) dX4_hashBoard_104 (c_X4_hashOne G) my_X4_hashOne ks_X4_181 rfl rfl (Nat.le_of_ble_eq_true rfl) (Nat.le_of_ble_eq_true rfl) (Nat.le_of_ble_eq_true rfl) (Nat.le_of_ble_eq_true rfl) (Nat.le_of_ble_eq_true rfl) (st2 := [.long (31 * g3 + (Int32.toInt64 (tellV β p w)))]) (k2 := 0) (g2 := 0) rfl rfl rfl ?_
              refine hV.lstore_n (ls2 := [(3, .long (31 * g3 + (Int32.toInt64 (tellV β p w)))), (6, .int (nI w)), (5, .int (nI p)), (0, .ref a), (1, .long x)]) dX4_hashBoard_107 (by decide) rfl ?_
              refine hV.iinc 1 (v := nI (w + 1)) (ls2 := [(6, .int (nI (w + 1))), (3, .long (31 * g3 + (Int32.toInt64 (tellV β p w)))), (5, .int (nI p)), (0, .ref a), (1, .long x)]) dX4_hashBoard_108 rfl (nI_1 _) (by decide) rfl ?_
              refine hV.goto (tgt := 85) dX4_hashBoard_111 (by decide) ?_
              refine hV.pick [0, 2, 1, 3, 4] (ls2 := [(6, .int (nI (w + 1))), (5, .int (nI p)), (3, .long (31 * g3 + (Int32.toInt64 (tellV β p w)))), (0, .ref a), (1, .long x)]) rfl ?_
              exact ih (w + 1) _ (by omega) (by rw [h3]; rfl)
          exact loopw (5) 0 _ (by omega) rfl
      exact loopp (7) 0 _ (by omega) rfl
    | succ ri ih =>
      intro i g1 hi h1
      refine hV.iload 0 dX4_hashBoard_5 rfl ?_
      refine hV.bipush (v := 56) dX4_hashBoard_7 (by decide) ?_
      refine hV.icmp_ge_f (tgt := 36) dX4_hashBoard_9 (by decide) (fun q => absurd ((nI_leI (a := 56) (b := i) (by omega) (by omega)).mp q) (by omega)) ?_
      refine hV.lload_n 1 dX4_hashBoard_12 rfl ?_
      refine hV.aload_n 2 dX4_hashBoard_13 rfl ?_
      refine hV.getf (v := .ref (a + 1)) dX4_hashBoard_14 fl_X4_12 To_o rfl ?_
      refine hV.getf (v := .ref (a + 1 + 2)) dX4_hashBoard_17 fl_X4_135 To_B.1 rfl ?_
      refine hV.iload 0 dX4_hashBoard_20 rfl ?_
      refine hV.iald (j := i) dX4_hashBoard_22 (zobjAt.arr To_B 1 56 (by decide) rfl) (zix_nI (by omega)) (by omega) ?_
      refine hV.iconst (v := 1) dX4_hashBoard_23 (by decide) ?_
      refine hV.iadd dX4_hashBoard_24 ?_
      refine hV.i2l dX4_hashBoard_25 rfl ?_
      refine hV.callS1 (rest := []) dX4_hashBoard_26 (c_X4_hashOne G) my_X4_hashOne ks_X4_181 rfl rfl (Nat.le_of_ble_eq_true rfl) (Nat.le_of_ble_eq_true rfl) (Nat.le_of_ble_eq_true rfl) (Nat.le_of_ble_eq_true rfl) (Nat.le_of_ble_eq_true rfl) (st2 := [.long (31 * g1 + (Int32.toInt64 ((β 1 i) + 1)))]) (k2 := 0) (g2 := 0) rfl rfl rfl ?_
      refine hV.lstore_n (ls2 := [(3, .long (31 * g1 + (Int32.toInt64 ((β 1 i) + 1)))), (5, .int (nI i)), (0, .ref a), (1, .long x)]) dX4_hashBoard_29 (by decide) rfl ?_
      refine hV.iinc 1 (v := nI (i + 1)) (ls2 := [(5, .int (nI (i + 1))), (3, .long (31 * g1 + (Int32.toInt64 ((β 1 i) + 1)))), (0, .ref a), (1, .long x)]) dX4_hashBoard_30 rfl (nI_1 _) (by decide) rfl ?_
      refine hV.goto (tgt := 5) dX4_hashBoard_33 (by decide) ?_
      exact ih (i + 1) _ (by omega) (by rw [h1]; rfl)
  exact loopi (56) 0 _ (by omega) rfl

set_option maxRecDepth 100000 in
set_option maxHeartbeats 1000000 in
theorem c_X4_hashColumn {l : Launch} {D : va_G} {base : Nat} (G : l.stackTraces = false) {h : zH} {n : Nat} {a : Nat} {β τ : zB} {rf : Nat → Option Nat} {φ : Nat → Int32} {c π : zB} {sn : Option Nat} {o s : Int32} (hp : pinOk (β 1)) {td : Nat → Nat → Int32} {tu : Nat → Int32} (htd : ∀ τ c w, c < 7 → w < 4 → tdV (lchB (cpB τ β) c) β w = td c w) (htu : ∀ τ c, c < 7 → tuV β τ c = tu c) {c1 : Nat} (hc : c1 < 7) {x : Int64} :
    zCt l D base 12 yX4_hashColumn w_X4_hashColumn [.ref a, .long x, .int (nI c1)] (zTo h a β τ o s rf φ c π sn) n 0 0 (zRT (some (.long (hcV β td tu c1 x))) (fun h' n' => ∃ τ2 π2, h' = zTo h a β τ2 o s rf φ c π2 sn ∧ n' = n)) := by
  refine zCt.of G (by decide) (Nat.le_of_ble_eq_true rfl) (fun Sx V X hV hE hX => ?_)
  show V 0 [(0, .ref a), (1, .long x), (3, .int (nI c1))] [] (zTo h a β τ o s rf φ c π sn) n 0 0
  refine hV.lload_n 1 dX4_hashColumn_0 rfl ?_
  refine hV.lstore (ls2 := [(4, .long x), (0, .ref a), (1, .long x), (3, .int (nI c1))]) dX4_hashColumn_1 (by decide) rfl ?_
  refine hV.aload_n 1 dX4_hashColumn_3 rfl ?_
  refine hV.getf (v := .ref (a + 27)) dX4_hashColumn_4 fl_X4_36 To_o rfl ?_
  refine hV.aload_n 1 dX4_hashColumn_7 rfl ?_
  refine hV.getf (v := .ref (a + 1)) dX4_hashColumn_8 fl_X4_12 To_o rfl ?_
  refine hV.getf (v := .ref (a + 1 + 2)) dX4_hashColumn_11 fl_X4_135 To_B.1 rfl ?_
  refine hV.iload_n 3 dX4_hashColumn_14 rfl ?_
  refine zHeap (h2 := setP (zTo h a β τ o s rf φ c π sn) (a + 27) π) (To_P.set.symm) ?_
  refine hV.callV1 (rest := []) dX4_hashColumn_15 (c_X2_countByRows G (q := a + 1 + 2) (by omega) (zobjAt.arr To_B 1 56 (by decide) rfl) (c := c1) (by omega)) my_X2_countByRows kv_X4_150 P_o rfl rfl rfl (Nat.le_of_ble_eq_true rfl) (Nat.le_of_ble_eq_true rfl) (Nat.le_of_ble_eq_true rfl) (Nat.le_of_ble_eq_true rfl) (Nat.le_of_ble_eq_true rfl) (st2 := []) (k2 := 0) (g2 := 0) rfl rfl rfl ?_
  refine zHeap (h2 := zTo h a β τ o s rf φ c (cbrP (β 1) c1 π) sn) To_P' ?_
  refine hV.aload_n 1 dX4_hashColumn_18 rfl ?_
  refine hV.getf (v := .ref (a + 27)) dX4_hashColumn_19 fl_X4_36 To_o rfl ?_
  refine hV.aload_n 1 dX4_hashColumn_22 rfl ?_
  refine hV.getf (v := .ref (a + 1)) dX4_hashColumn_23 fl_X4_12 To_o rfl ?_
  refine hV.getf (v := .ref (a + 1 + 2)) dX4_hashColumn_26 fl_X4_135 To_B.1 rfl ?_
  refine hV.iload_n 3 dX4_hashColumn_29 rfl ?_
  refine zHeap (h2 := setP (zTo h a β τ o s rf φ c (cbrP (β 1) c1 π) sn) (a + 27) (cbrP (β 1) c1 π)) (To_P.set.symm) ?_
  refine hV.callV1 (rest := []) dX4_hashColumn_30 (c_X2_goAllWays G (q := a + 1 + 2) (by omega) (zobjAt.arr To_B 1 56 (by decide) rfl) (c := c1) (by omega)) my_X2_goAllWays kv_X4_157 P_o rfl rfl rfl (Nat.le_of_ble_eq_true rfl) (Nat.le_of_ble_eq_true rfl) (Nat.le_of_ble_eq_true rfl) (Nat.le_of_ble_eq_true rfl) (Nat.le_of_ble_eq_true rfl) (st2 := []) (k2 := 0) (g2 := 0) rfl rfl rfl ?_
  refine zHeap (h2 := zTo h a β τ o s rf φ c (gawP (β 1) c1 (cbrP (β 1) c1 π)) sn) To_P' ?_
  refine hV.iconst (v := 0) dX4_hashColumn_33 (by decide) ?_
  refine hV.istore (ls2 := [(6, .int 0), (4, .long x), (0, .ref a), (1, .long x), (3, .int (nI c1))]) dX4_hashColumn_34 (by decide) rfl ?_
  have loopp : ∀ (rp pq : Nat) (g1 : Int64), pq + rp = 7 → (g1 = hcW β c1 pq x) → V 36 [(6, .int (nI pq)), (4, .long g1), (0, .ref a), (1, .long x), (3, .int (nI c1))] [] (zTo h a β τ o s rf φ c (gawP (β 1) c1 (cbrP (β 1) c1 π)) sn) n 0 0 := by
    intro rp
    induction rp with
    | zero =>
      intro pq g1 hpq h1
      refine hV.iload 0 dX4_hashColumn_36 rfl ?_
      refine hV.bipush (v := 7) dX4_hashColumn_38 (by decide) ?_
      refine hV.icmp_ge_t (tgt := 85) dX4_hashColumn_40 (by decide) ((nI_leI (a := 7) (b := pq) (by omega) (by omega)).mpr (by omega)) ?_
      have ep : pq = 7 := (by omega)
      rw [ep] at h1
      refine hV.aload_n 2 dX4_hashColumn_85 rfl ?_
      refine hV.iload_n 4 dX4_hashColumn_86 rfl ?_
      refine hV.callV1 (rest := []) dX4_hashColumn_87 (c_X4_tryLaunch G hp (c1 := c1) (by omega)) my_X4_tryLaunch kv_X4_163 To_o rfl rfl rfl (Nat.le_of_ble_eq_true rfl) (Nat.le_of_ble_eq_true rfl) (Nat.le_of_ble_eq_true rfl) (Nat.le_of_ble_eq_true rfl) (Nat.le_of_ble_eq_true rfl) (st2 := []) (k2 := 0) (g2 := 0) rfl rfl rfl ?_
      refine hV.iconst (v := 0) dX4_hashColumn_90 (by decide) ?_
      refine hV.istore (ls2 := [(6, .int 0), (4, .long g1), (0, .ref a), (1, .long x), (3, .int (nI c1))]) dX4_hashColumn_91 (by decide) rfl ?_
      have loopw : ∀ (rw w : Nat) (g2 : Int64), w + rw = 4 → (g2 = hsN (td c1) w (g1)) → V 93 [(6, .int (nI w)), (4, .long g2), (0, .ref a), (1, .long x), (3, .int (nI c1))] [] (zTo h a β (lchB (cpB τ β) c1) o s rf φ c (gawP (β 1) c1 (cbrP (β 1) c1 π)) sn) n 0 0 := by
        intro rw
        induction rw with
        | zero =>
          intro w g2 hw h2
          refine hV.iload 0 dX4_hashColumn_93 rfl ?_
          refine hV.iconst (v := 3) dX4_hashColumn_95 (by decide) ?_
          refine hV.icmp_gt_t (tgt := 119) dX4_hashColumn_96 (by decide) ((nI_ltI (a := 3) (b := w) (by omega) (by omega)).mpr (by omega)) ?_
          have ew : w = 4 := (by omega)
          rw [ew] at h2
          refine hV.lload 1 dX4_hashColumn_119 rfl ?_
          refine hV.aload_n 2 dX4_hashColumn_121 rfl ?_
          refine hV.iload_n 4 dX4_hashColumn_122 rfl ?_
          refine hV.callV3 (rest := [.long g2]) dX4_hashColumn_123 (c_X4_tryUntilHeld G hp (c1 := c1) (by omega)) my_X4_tryUntilHeld kv_X4_172 To_o rfl rfl rfl (Nat.le_of_ble_eq_true rfl) (Nat.le_of_ble_eq_true rfl) (Nat.le_of_ble_eq_true rfl) (Nat.le_of_ble_eq_true rfl) (Nat.le_of_ble_eq_true rfl) (st2 := [.int (tuV β (lchB (cpB τ β) c1) c1), .long g2]) (k2 := 0) (g2 := 0) rfl rfl rfl (fun h1 n1 hn1 hs1 => ?_)
          obtain ⟨t1, rfl, rfl⟩ := hs1
          refine hV.i2l dX4_hashColumn_126 rfl ?_
          refine hV.callS1 (rest := []) dX4_hashColumn_127 (c_X4_hashOne G) my_X4_hashOne ks_X4_181 rfl rfl (Nat.le_of_ble_eq_true rfl) (Nat.le_of_ble_eq_true rfl) (Nat.le_of_ble_eq_true rfl) (Nat.le_of_ble_eq_true rfl) (Nat.le_of_ble_eq_true rfl) (st2 := [.long (31 * g2 + (Int32.toInt64 (tuV β (lchB (cpB τ β) c1) c1)))]) (k2 := 0) (g2 := 0) rfl rfl rfl ?_
          exact hE.2.1 dX4_hashColumn_130 rfl (Nat.le_of_ble_eq_true rfl) (Nat.le_of_ble_eq_true rfl) (zRTl (by rw [h2, h1, htu _ _ hc]; rfl) ⟨_, _, rfl, rfl⟩)
        | succ rw ih =>
          intro w g2 hw h2
          refine hV.iload 0 dX4_hashColumn_93 rfl ?_
          refine hV.iconst (v := 3) dX4_hashColumn_95 (by decide) ?_
          refine hV.icmp_gt_f (tgt := 119) dX4_hashColumn_96 (by decide) (fun q => absurd ((nI_ltI (a := 3) (b := w) (by omega) (by omega)).mp q) (by omega)) ?_
          refine hV.lload 1 dX4_hashColumn_99 rfl ?_
          refine hV.aload_n 2 dX4_hashColumn_101 rfl ?_
          refine hV.iload 0 dX4_hashColumn_102 rfl ?_
          refine hV.callV1 (rest := [.long g2]) dX4_hashColumn_104 (c_X4_tellTried G (w := w) (by omega)) my_X4_tellTried kv_X4_166 To_o rfl rfl rfl (Nat.le_of_ble_eq_true rfl) (Nat.le_of_ble_eq_true rfl) (Nat.le_of_ble_eq_true rfl) (Nat.le_of_ble_eq_true rfl) (Nat.le_of_ble_eq_true rfl) (st2 := [.int (tdV (lchB (cpB τ β) c1) β w), .long g2]) (k2 := 0) (g2 := 0) rfl rfl rfl ?_
          refine zTop (v := td c1 w) (htd _ _ _ hc (by omega)) ?_
          refine hV.i2l dX4_hashColumn_107 rfl ?_
          refine hV.callS1 (rest := []) dX4_hashColumn_108 (c_X4_hashOne G) my_X4_hashOne ks_X4_181 rfl rfl (Nat.le_of_ble_eq_true rfl) (Nat.le_of_ble_eq_true rfl) (Nat.le_of_ble_eq_true rfl) (Nat.le_of_ble_eq_true rfl) (Nat.le_of_ble_eq_true rfl) (st2 := [.long (31 * g2 + (Int32.toInt64 (td c1 w)))]) (k2 := 0) (g2 := 0) rfl rfl rfl ?_
          refine hV.lstore (ls2 := [(4, .long (31 * g2 + (Int32.toInt64 (td c1 w)))), (6, .int (nI w)), (0, .ref a), (1, .long x), (3, .int (nI c1))]) dX4_hashColumn_111 (by decide) rfl ?_
          refine hV.iinc 1 (v := nI (w + 1)) (ls2 := [(6, .int (nI (w + 1))), (4, .long (31 * g2 + (Int32.toInt64 (td c1 w)))), (0, .ref a), (1, .long x), (3, .int (nI c1))]) dX4_hashColumn_113 rfl (nI_1 _) (by decide) rfl ?_
          refine hV.goto (tgt := 93) dX4_hashColumn_116 (by decide) ?_
          exact ih (w + 1) _ (by omega) (by rw [h2]; rfl)
      exact loopw (4) 0 _ (by omega) rfl
    | succ rp ih =>
      intro pq g1 hpq h1
      refine hV.iload 0 dX4_hashColumn_36 rfl ?_
      refine hV.bipush (v := 7) dX4_hashColumn_38 (by decide) ?_
      refine hV.icmp_ge_f (tgt := 85) dX4_hashColumn_40 (by decide) (fun q => absurd ((nI_leI (a := 7) (b := pq) (by omega) (by omega)).mp q) (by omega)) ?_
      refine hV.lload 1 dX4_hashColumn_43 rfl ?_
      refine hV.aload_n 2 dX4_hashColumn_45 rfl ?_
      refine hV.getf (v := .ref (a + 27)) dX4_hashColumn_46 fl_X4_36 To_o rfl ?_
      refine hV.getf (v := .ref (a + 27 + 1)) dX4_hashColumn_49 fl_X4_154 To_P.1 rfl ?_
      refine hV.iload 0 dX4_hashColumn_52 rfl ?_
      refine hV.iald (j := pq) dX4_hashColumn_54 (zobjAt.arr To_P 0 7 (by decide) rfl) (zix_nI (by omega)) (by omega) ?_
      refine zTop (v := cv β c1 pq) (by unfold gawP; rw [sa_ne _ _ (by decide)]; exact cbr_cv (by omega)) ?_
      refine hV.i2l dX4_hashColumn_55 rfl ?_
      refine hV.callS1 (rest := []) dX4_hashColumn_56 (c_X4_hashOne G) my_X4_hashOne ks_X4_181 rfl rfl (Nat.le_of_ble_eq_true rfl) (Nat.le_of_ble_eq_true rfl) (Nat.le_of_ble_eq_true rfl) (Nat.le_of_ble_eq_true rfl) (Nat.le_of_ble_eq_true rfl) (st2 := [.long (31 * g1 + (Int32.toInt64 (cv β c1 pq)))]) (k2 := 0) (g2 := 0) rfl rfl rfl ?_
      refine hV.lstore (ls2 := [(4, .long (31 * g1 + (Int32.toInt64 (cv β c1 pq)))), (6, .int (nI pq)), (0, .ref a), (1, .long x), (3, .int (nI c1))]) dX4_hashColumn_59 (by decide) rfl ?_
      refine hV.lload 0 dX4_hashColumn_61 rfl ?_
      refine hV.aload_n 2 dX4_hashColumn_63 rfl ?_
      refine hV.getf (v := .ref (a + 27)) dX4_hashColumn_64 fl_X4_36 To_o rfl ?_
      refine hV.getf (v := .ref (a + 27 + 2)) dX4_hashColumn_67 fl_X4_160 To_P.1 rfl ?_
      refine hV.iload 1 dX4_hashColumn_70 rfl ?_
      refine hV.iald (j := pq) dX4_hashColumn_72 (zobjAt.arr To_P 1 7 (by decide) rfl) (zix_nI (by omega)) (by omega) ?_
      refine zTop (v := gv β c1 pq) (gaw_gv hc (by omega)) ?_
      refine hV.i2l dX4_hashColumn_73 rfl ?_
      refine hV.callS1 (rest := []) dX4_hashColumn_74 (c_X4_hashOne G) my_X4_hashOne ks_X4_181 rfl rfl (Nat.le_of_ble_eq_true rfl) (Nat.le_of_ble_eq_true rfl) (Nat.le_of_ble_eq_true rfl) (Nat.le_of_ble_eq_true rfl) (Nat.le_of_ble_eq_true rfl) (st2 := [.long (31 * (31 * g1 + (Int32.toInt64 (cv β c1 pq))) + (Int32.toInt64 (gv β c1 pq)))]) (k2 := 0) (g2 := 0) rfl rfl rfl ?_
      refine hV.lstore (ls2 := [(4, .long (31 * (31 * g1 + (Int32.toInt64 (cv β c1 pq))) + (Int32.toInt64 (gv β c1 pq)))), (6, .int (nI pq)), (0, .ref a), (1, .long x), (3, .int (nI c1))]) dX4_hashColumn_77 (by decide) rfl ?_
      refine hV.iinc 1 (v := nI (pq + 1)) (ls2 := [(6, .int (nI (pq + 1))), (4, .long (31 * (31 * g1 + (Int32.toInt64 (cv β c1 pq))) + (Int32.toInt64 (gv β c1 pq)))), (0, .ref a), (1, .long x), (3, .int (nI c1))]) dX4_hashColumn_79 rfl (nI_1 _) (by decide) rfl ?_
      refine hV.goto (tgt := 36) dX4_hashColumn_82 (by decide) ?_
      exact ih (pq + 1) _ (by omega) (by rw [h1]; rfl)
  exact loopp (7) 0 _ (by omega) rfl

set_option maxRecDepth 100000 in
set_option maxHeartbeats 1000000 in
theorem c_X4_digest {l : Launch} {D : va_G} {base : Nat} (G : l.stackTraces = false) {h : zH} {n : Nat} {a : Nat} {β τ : zB} {rf : Nat → Option Nat} {φ : Nat → Int32} {c π : zB} {sn : Option Nat} {o s : Int32} (hp : pinOk (β 1)) {td : Nat → Nat → Int32} {tu : Nat → Int32} (htd : ∀ τ c w, c < 7 → w < 4 → tdV (lchB (cpB τ β) c) β w = td c w) (htu : ∀ τ c, c < 7 → tuV β τ c = tu c) {m : Nat} (hm : β 0 16 = nI m) (hm3 : m ≤ 56) {L : Nat} (hL : φ 0 = nI L) (hL2 : L ≤ 60) (hn : ¬ β 0 2 ≤ 0 → vf_n64 (FP.ddiv (FP.i2d (β 0 3)) (FP.i2d (β 0 2)))) (hbits : ∀ (H : zH) (N : Nat), zCt l D base 2 yX4_bitsOf w_X4_bitsOf [.double (pbV β)] H N 0 0 (zR (some (.long (UInt64.toInt64 (pbV β)))) H N)) :
    zCt l D base 13 yX4_digest w_X4_digest [.ref a] (zTo h a β τ o s rf φ c π sn) n 0 0 (zRT (some (.long (dgT β m s (c 0) L td tu))) (fun h' n' => ∃ τ2 π2, h' = zTo h a β τ2 o s rf φ c π2 sn ∧ n' = n)) := by
  refine zCt.of G (by decide) (Nat.le_of_ble_eq_true rfl) (fun Sx V X hV hE hX => ?_)
  show V 0 [(0, .ref a)] [] (zTo h a β τ o s rf φ c π sn) n 0 0
  refine hV.ldc2 dX4_digest_0 kc_X4_175 ?_
  refine hV.aload_n 0 dX4_digest_3 rfl ?_
  refine hV.getf (v := .ref (a + 1)) dX4_digest_4 fl_X4_12 To_o rfl ?_
  refine hV.getf (v := .ref (a + 1 + 1)) dX4_digest_7 fl_X4_71 To_B.1 rfl ?_
  refine hV.bipush (v := 17) dX4_digest_10 (by decide) ?_
  refine hV.callS1 (rest := []) dX4_digest_12 (c_X4_hashAll G (k := 17) (zobjAt.arr To_B 0 17 (by decide) rfl) (by omega) (by decide)) my_X4_hashAll ks_X4_177 rfl rfl (Nat.le_of_ble_eq_true rfl) (Nat.le_of_ble_eq_true rfl) (Nat.le_of_ble_eq_true rfl) (Nat.le_of_ble_eq_true rfl) (Nat.le_of_ble_eq_true rfl) (st2 := [.long (hsN (β 0) 17 3677)]) (k2 := 0) (g2 := 0) rfl rfl rfl ?_
  refine hV.lstore_n (ls2 := [(1, .long (hsN (β 0) 17 3677)), (0, .ref a)]) dX4_digest_15 (by decide) rfl ?_
  refine hV.lload_n 0 dX4_digest_16 rfl ?_
  refine hV.aload_n 1 dX4_digest_17 rfl ?_
  refine hV.getf (v := .ref (a + 23)) dX4_digest_18 fl_X4_22 To_o rfl ?_
  refine hV.getf (v := .int s) dX4_digest_21 fl_X4_127 To_h rfl ?_
  refine hV.i2l dX4_digest_24 rfl ?_
  refine hV.callS1 (rest := []) dX4_digest_25 (c_X4_hashOne G) my_X4_hashOne ks_X4_181 rfl rfl (Nat.le_of_ble_eq_true rfl) (Nat.le_of_ble_eq_true rfl) (Nat.le_of_ble_eq_true rfl) (Nat.le_of_ble_eq_true rfl) (Nat.le_of_ble_eq_true rfl) (st2 := [.long (31 * (hsN (β 0) 17 3677) + (Int32.toInt64 s))]) (k2 := 0) (g2 := 0) rfl rfl rfl ?_
  refine hV.lstore_n (ls2 := [(1, .long (31 * (hsN (β 0) 17 3677) + (Int32.toInt64 s))), (0, .ref a)]) dX4_digest_28 (by decide) rfl ?_
  refine hV.aload_n 1 dX4_digest_29 rfl ?_
  refine hV.lload_n 0 dX4_digest_30 rfl ?_
  refine hV.callV1 (rest := []) dX4_digest_31 (c_X4_hashBoard G hm hm3) my_X4_hashBoard kv_X4_185 To_o rfl rfl rfl (Nat.le_of_ble_eq_true rfl) (Nat.le_of_ble_eq_true rfl) (Nat.le_of_ble_eq_true rfl) (Nat.le_of_ble_eq_true rfl) (Nat.le_of_ble_eq_true rfl) (st2 := [.long (hbV β m (31 * (hsN (β 0) 17 3677) + (Int32.toInt64 s)))]) (k2 := 0) (g2 := 0) rfl rfl rfl ?_
  refine hV.lstore_n (ls2 := [(1, .long (hbV β m (31 * (hsN (β 0) 17 3677) + (Int32.toInt64 s)))), (0, .ref a)]) dX4_digest_34 (by decide) rfl ?_
  refine hV.iconst (v := 0) dX4_digest_35 (by decide) ?_
  refine hV.istore_n (ls2 := [(3, .int 0), (1, .long (hbV β m (31 * (hsN (β 0) 17 3677) + (Int32.toInt64 s)))), (0, .ref a)]) dX4_digest_36 (by decide) rfl ?_
  have loop : ∀ (r j : Nat) (g : Int64) (τ1 π1 : zB), j + r = 7 → (g = hcN β td tu j (hbV β m (31 * (hsN (β 0) 17 3677) + (Int32.toInt64 s)))) → V 37 [(3, .int (nI j)), (1, .long g), (0, .ref a)] [] (zTo h a β τ1 o s rf φ c π1 sn) n 0 0 := by
    intro r
    induction r with
    | zero =>
      intro j g τ1 π1 hj hg
      refine hV.iload_n 0 dX4_digest_37 rfl ?_
      refine hV.bipush (v := 7) dX4_digest_38 (by decide) ?_
      refine hV.icmp_ge_t (tgt := 56) dX4_digest_40 (by decide) ((nI_leI (a := 7) (b := j) (by omega) (by omega)).mpr (by omega)) ?_
      have ej : j = 7 := (by omega)
      rw [ej] at hg
      refine hV.lload_n 1 dX4_digest_56 rfl ?_
      refine hV.aload_n 2 dX4_digest_57 rfl ?_
      refine hV.callV3 (rest := [.long g]) dX4_digest_58 (c_X4_bestColumn G) my_X4_bestColumn kv_X4_193 To_o rfl rfl rfl (Nat.le_of_ble_eq_true rfl) (Nat.le_of_ble_eq_true rfl) (Nat.le_of_ble_eq_true rfl) (Nat.le_of_ble_eq_true rfl) (Nat.le_of_ble_eq_true rfl) (st2 := [.int ((bcC β 7).1), .long g]) (k2 := 0) (g2 := 0) rfl rfl rfl (fun h1 n1 hn1 hs1 => ?_)
      obtain ⟨p1, rfl, rfl⟩ := hs1
      refine hV.i2l dX4_digest_61 rfl ?_
      refine hV.callS1 (rest := []) dX4_digest_62 (c_X4_hashOne G) my_X4_hashOne ks_X4_181 rfl rfl (Nat.le_of_ble_eq_true rfl) (Nat.le_of_ble_eq_true rfl) (Nat.le_of_ble_eq_true rfl) (Nat.le_of_ble_eq_true rfl) (Nat.le_of_ble_eq_true rfl) (st2 := [.long (31 * g + (Int32.toInt64 ((bcC β 7).1)))]) (k2 := 0) (g2 := 0) rfl rfl rfl ?_
      refine hV.lstore_n (ls2 := [(1, .long (31 * g + (Int32.toInt64 ((bcC β 7).1)))), (3, .int (nI j)), (0, .ref a)]) dX4_digest_65 (by decide) rfl ?_
      refine hV.lload_n 0 dX4_digest_66 rfl ?_
      refine hV.aload_n 2 dX4_digest_67 rfl ?_
      refine hV.callV1 (rest := [.long (31 * g + (Int32.toInt64 ((bcC β 7).1)))]) dX4_digest_68 (c_X4_payback G hn) my_X4_payback kv_X4_196 To_o rfl rfl rfl (Nat.le_of_ble_eq_true rfl) (Nat.le_of_ble_eq_true rfl) (Nat.le_of_ble_eq_true rfl) (Nat.le_of_ble_eq_true rfl) (Nat.le_of_ble_eq_true rfl) (st2 := [.double (pbV β), .long (31 * g + (Int32.toInt64 ((bcC β 7).1)))]) (k2 := 0) (g2 := 0) rfl rfl rfl ?_
      refine hV.callS1 (rest := [.long (31 * g + (Int32.toInt64 ((bcC β 7).1)))]) dX4_digest_71 (hbits _ _) my_X4_bitsOf ks_X4_200 rfl rfl (Nat.le_of_ble_eq_true rfl) (Nat.le_of_ble_eq_true rfl) (Nat.le_of_ble_eq_true rfl) (Nat.le_of_ble_eq_true rfl) (Nat.le_of_ble_eq_true rfl) (st2 := [.long (UInt64.toInt64 (pbV β)), .long (31 * g + (Int32.toInt64 ((bcC β 7).1)))]) (k2 := 0) (g2 := 0) rfl rfl rfl ?_
      refine hV.callS1 (rest := []) dX4_digest_74 (c_X4_hashOne G) my_X4_hashOne ks_X4_181 rfl rfl (Nat.le_of_ble_eq_true rfl) (Nat.le_of_ble_eq_true rfl) (Nat.le_of_ble_eq_true rfl) (Nat.le_of_ble_eq_true rfl) (Nat.le_of_ble_eq_true rfl) (st2 := [.long (31 * (31 * g + (Int32.toInt64 ((bcC β 7).1))) + (UInt64.toInt64 (pbV β)))]) (k2 := 0) (g2 := 0) rfl rfl rfl ?_
      refine hV.lstore_n (ls2 := [(1, .long (31 * (31 * g + (Int32.toInt64 ((bcC β 7).1))) + (UInt64.toInt64 (pbV β)))), (3, .int (nI j)), (0, .ref a)]) dX4_digest_77 (by decide) rfl ?_
      refine hV.lload_n 0 dX4_digest_78 rfl ?_
      refine hV.aload_n 2 dX4_digest_79 rfl ?_
      refine hV.getf (v := .ref (a + 25)) dX4_digest_80 fl_X4_29 To_o rfl ?_
      refine hV.getf (v := .int (φ 0)) dX4_digest_83 fl_X4_95 To_T.1 rfl ?_
      refine zTop (v := nI L) hL ?_
      refine hV.i2l dX4_digest_86 rfl ?_
      refine hV.callS1 (rest := []) dX4_digest_87 (c_X4_hashOne G) my_X4_hashOne ks_X4_181 rfl rfl (Nat.le_of_ble_eq_true rfl) (Nat.le_of_ble_eq_true rfl) (Nat.le_of_ble_eq_true rfl) (Nat.le_of_ble_eq_true rfl) (Nat.le_of_ble_eq_true rfl) (st2 := [.long (31 * (31 * (31 * g + (Int32.toInt64 ((bcC β 7).1))) + (UInt64.toInt64 (pbV β))) + (Int32.toInt64 (nI L)))]) (k2 := 0) (g2 := 0) rfl rfl rfl ?_
      refine hV.lstore_n (ls2 := [(1, .long (31 * (31 * (31 * g + (Int32.toInt64 ((bcC β 7).1))) + (UInt64.toInt64 (pbV β))) + (Int32.toInt64 (nI L)))), (3, .int (nI j)), (0, .ref a)]) dX4_digest_90 (by decide) rfl ?_
      refine hV.lload_n 0 dX4_digest_91 rfl ?_
      refine hV.aload_n 2 dX4_digest_92 rfl ?_
      refine hV.getf (v := .ref (a + 25)) dX4_digest_93 fl_X4_29 To_o rfl ?_
      refine hV.getf (v := .ref (a + 25 + 1)) dX4_digest_96 fl_X4_204 To_T.1 rfl ?_
      refine hV.aload_n 2 dX4_digest_99 rfl ?_
      refine hV.getf (v := .ref (a + 25)) dX4_digest_100 fl_X4_29 To_o rfl ?_
      refine hV.getf (v := .int (φ 0)) dX4_digest_103 fl_X4_95 To_T.1 rfl ?_
      refine zTop (v := nI L) hL ?_
      refine hV.callS1 (rest := []) dX4_digest_106 (c_X4_hashAll G (k := L) (zobjAt.arr To_T 0 60 (by decide) rfl) (by omega) (by decide)) my_X4_hashAll ks_X4_177 rfl rfl (Nat.le_of_ble_eq_true rfl) (Nat.le_of_ble_eq_true rfl) (Nat.le_of_ble_eq_true rfl) (Nat.le_of_ble_eq_true rfl) (Nat.le_of_ble_eq_true rfl) (st2 := [.long (hsN (c 0) L (31 * (31 * (31 * g + (Int32.toInt64 ((bcC β 7).1))) + (UInt64.toInt64 (pbV β))) + (Int32.toInt64 (nI L))))]) (k2 := 0) (g2 := 0) rfl rfl rfl ?_
      exact hE.2.1 dX4_digest_109 rfl (Nat.le_of_ble_eq_true rfl) (Nat.le_of_ble_eq_true rfl) (zRTl (by rw [hg]; rfl) ⟨_, _, rfl, rfl⟩)
    | succ r ih =>
      intro j g τ1 π1 hj hg
      refine hV.iload_n 0 dX4_digest_37 rfl ?_
      refine hV.bipush (v := 7) dX4_digest_38 (by decide) ?_
      refine hV.icmp_ge_f (tgt := 56) dX4_digest_40 (by decide) (fun q => absurd ((nI_leI (a := 7) (b := j) (by omega) (by omega)).mp q) (by omega)) ?_
      refine hV.aload_n 2 dX4_digest_43 rfl ?_
      refine hV.lload_n 1 dX4_digest_44 rfl ?_
      refine hV.iload_n 0 dX4_digest_45 rfl ?_
      refine hV.callV3 (rest := []) dX4_digest_46 (c_X4_hashColumn G hp htd htu (c1 := j) (by omega)) my_X4_hashColumn kv_X4_189 To_o rfl rfl rfl (Nat.le_of_ble_eq_true rfl) (Nat.le_of_ble_eq_true rfl) (Nat.le_of_ble_eq_true rfl) (Nat.le_of_ble_eq_true rfl) (Nat.le_of_ble_eq_true rfl) (st2 := [.long (hcV β td tu j g)]) (k2 := 0) (g2 := 0) rfl rfl rfl (fun h2 n2 hn2 hs2 => ?_)
      obtain ⟨t2, p2, rfl, rfl⟩ := hs2
      refine hV.lstore_n (ls2 := [(1, .long (hcV β td tu j g)), (3, .int (nI j)), (0, .ref a)]) dX4_digest_49 (by decide) rfl ?_
      refine hV.iinc 1 (v := nI (j + 1)) (ls2 := [(3, .int (nI (j + 1))), (1, .long (hcV β td tu j g)), (0, .ref a)]) dX4_digest_50 rfl (nI_1 _) (by decide) rfl ?_
      refine hV.goto (tgt := 37) dX4_digest_53 (by decide) ?_
      exact ih (j + 1) _ _ _ (by omega) (by rw [hg]; rfl)
  exact loop (7) 0 _ _ _ (by omega) rfl
