/-! The face: a part's deed; work -/
/-- what a board's pins and list of bent pins must be for a bend -/
def BI (β : zB) (m : Nat) : Prop := pinOk (β 1) ∧ β 0 16 = nI m ∧ m ≤ 56 ∧ ∀ i, i < 56 → β 1 i = 0 → m < 56
def pdOk (f : Nat → Int32) (L p u : Nat) : Prop := (cAt f L p = 108 ∧ ∃ c1 k, c1 < 7 ∧ k < 1000 ∧ dBl f L 7 (p + 1) = nI c1 ∧ nmF f L (p + 3) (u - (p + 3)) = nI k) ∨ (cAt f L p = 98 ∧ ∃ r c1, r < 8 ∧ c1 < 7 ∧ dBl f L 8 (p + 1) = nI r ∧ dBl f L 7 (p + 2) = nI c1) ∨ (¬ cAt f L p = 98 ∧ ¬ cAt f L p = 108)
def pdB (f : Nat → Int32) (L p u : Nat) (β : zB) : zB × Int32 := if cAt f L p = 108 then plB (dBl f L 7 (p + 1)).toNatClampNeg (nmF f L (p + 3) (u - (p + 3))).toNatClampNeg (β, 0)
  else if cAt f L p = 98 then (bendB β ((dBl f L 8 (p + 1)).toNatClampNeg * 7 + (dBl f L 7 (p + 2)).toNatClampNeg) (β 0 16).toNatClampNeg (bAt f L (p + 3)), 0) else (buyB β (nmF f L (p + 1) (u - (p + 1))), 0)

set_option maxRecDepth 100000 in
set_option maxHeartbeats 1000000 in
theorem c_X4_doPart {l : Launch} {D : va_G} {base : Nat} (G : l.stackTraces = false) {h : zH} {n : Nat} {a : Nat} {β τ : zB} {rf : Nat → Option Nat} {φ : Nat → Int32} {c π : zB} {sn : Option Nat} {o s : Int32} {L : Nat} (hL : φ 0 = nI L) (hL2 : L ≤ 60) {p u m : Nat} (hp30 : p < 2 ^ 29) (hu30 : u < 2 ^ 29) (hB : BI β m) (hd : pdOk (c 0) L p u) :
    zCt l D base 7 yX4_doPart w_X4_doPart [.ref a, .int (nI p), .int (nI u)] (zTo h a β τ o s rf φ c π sn) n 0 0 (zR (some (.int ((pdB (c 0) L p u β).2))) (zTo h a ((pdB (c 0) L p u β).1) τ o s rf φ c π sn) (n)) := by
  refine zCt.of G (by decide) (Nat.le_of_ble_eq_true rfl) (fun Sx V X hV hE hX => ?_)
  show V 0 [(0, .ref a), (1, .int (nI p)), (2, .int (nI u))] [] (zTo h a β τ o s rf φ c π sn) n 0 0
  obtain ⟨hp, hm, hm3, hm4⟩ := hB
  rcases hd with ⟨h4, c1, k, hc, hk, h5, h6⟩ | ⟨h4, r, c1, hr, hc, h5, h6⟩ | ⟨h4, h4b⟩
  · skip
    refine hV.aload_n 0 dX4_doPart_0 rfl ?_
    refine hV.getf (v := .ref (a + 25)) dX4_doPart_1 fl_X4_29 To_o rfl ?_
    refine hV.iload_n 1 dX4_doPart_4 rfl ?_
    refine zHeap (h2 := setT (zTo h a β τ o s rf φ c π sn) (a + 25) φ c) (To_T.set.symm) ?_
    refine hV.callV1 (rest := []) dX4_doPart_5 (c_X3_codeAt G (p := p) hL hL2 (by omega)) my_X3_codeAt kv_X4_214 T_o rfl rfl rfl (Nat.le_of_ble_eq_true rfl) (Nat.le_of_ble_eq_true rfl) (Nat.le_of_ble_eq_true rfl) (Nat.le_of_ble_eq_true rfl) (Nat.le_of_ble_eq_true rfl) (st2 := [.int (cAt (c 0) L p)]) (k2 := 0) (g2 := 0) rfl rfl rfl ?_
    refine zHeap (h2 := zTo h a β τ o s rf φ c π sn) To_T' ?_
    refine hV.lookup (off := 28) (tgt := 36) dX4_doPart_8 (by decide) (by rw [h4]; decide) (by decide) ?_
    refine hV.aload_n 0 dX4_doPart_36 rfl ?_
    refine hV.getf (v := .ref (a + 25)) dX4_doPart_37 fl_X4_29 To_o rfl ?_
    refine hV.bipush (v := 7) dX4_doPart_40 (by decide) ?_
    refine hV.iload_n 1 dX4_doPart_42 rfl ?_
    refine hV.iconst (v := 1) dX4_doPart_43 (by decide) ?_
    refine hV.iaddN (a := p) (b := 1) dX4_doPart_44 ?_
    refine zHeap (h2 := setT (zTo h a β τ o s rf φ c π sn) (a + 25) φ c) (To_T.set.symm) ?_
    refine hV.callV1 (rest := []) dX4_doPart_45 (c_X3_digitBelow G (p := p + 1) (w := 7) hL hL2 (by omega)) my_X3_digitBelow kv_X4_217 T_o rfl rfl rfl (Nat.le_of_ble_eq_true rfl) (Nat.le_of_ble_eq_true rfl) (Nat.le_of_ble_eq_true rfl) (Nat.le_of_ble_eq_true rfl) (Nat.le_of_ble_eq_true rfl) (st2 := [.int (dBl (c 0) L 7 (p + 1))]) (k2 := 0) (g2 := 0) rfl rfl rfl ?_
    refine zHeap (h2 := zTo h a β τ o s rf φ c π sn) To_T' ?_
    refine zTop (v := nI c1) h5 ?_
    refine hV.istore_n (ls2 := [(3, .int (nI c1)), (0, .ref a), (1, .int (nI p)), (2, .int (nI u))]) dX4_doPart_48 (by decide) rfl ?_
    refine hV.aload_n 1 dX4_doPart_49 rfl ?_
    refine hV.getf (v := .ref (a + 1)) dX4_doPart_50 fl_X4_12 To_o rfl ?_
    refine hV.iload_n 0 dX4_doPart_53 rfl ?_
    refine hV.aload_n 1 dX4_doPart_54 rfl ?_
    refine hV.getf (v := .ref (a + 25)) dX4_doPart_55 fl_X4_29 To_o rfl ?_
    refine hV.iload_n 2 dX4_doPart_58 rfl ?_
    refine hV.iconst (v := 3) dX4_doPart_59 (by decide) ?_
    refine hV.iaddN (a := p) (b := 3) dX4_doPart_60 ?_
    refine hV.iload_n 3 dX4_doPart_61 rfl ?_
    refine zHeap (h2 := setT (zTo h a β τ o s rf φ c π sn) (a + 25) φ c) (To_T.set.symm) ?_
    refine hV.callV1 (rest := [.int (nI c1), .ref (a + 1)]) dX4_doPart_62 (c_X3_numberIn G (p := p + 3) (u := u) hL hL2 (by omega) (by omega)) my_X3_numberIn kv_X4_220 T_o rfl rfl rfl (Nat.le_of_ble_eq_true rfl) (Nat.le_of_ble_eq_true rfl) (Nat.le_of_ble_eq_true rfl) (Nat.le_of_ble_eq_true rfl) (Nat.le_of_ble_eq_true rfl) (st2 := [.int (nmF (c 0) L (p + 3) (u - (p + 3))), .int (nI c1), .ref (a + 1)]) (k2 := 0) (g2 := 0) rfl rfl rfl ?_
    refine zHeap (h2 := zTo h a β τ o s rf φ c π sn) To_T' ?_
    refine zTop (v := nI k) h6 ?_
    refine zHeap (h2 := setB (zTo h a β τ o s rf φ c π sn) (a + 1) β) (To_B.set.symm) ?_
    refine hV.callV1 (rest := []) dX4_doPart_65 (c_X0_launchBalls G (c := c1) (k := k) (by omega) (by omega) hp) my_X0_launchBalls kv_X4_86 B_o rfl rfl rfl (Nat.le_of_ble_eq_true rfl) (Nat.le_of_ble_eq_true rfl) (Nat.le_of_ble_eq_true rfl) (Nat.le_of_ble_eq_true rfl) (Nat.le_of_ble_eq_true rfl) (st2 := [.int ((plB c1 k (β, 0)).2)]) (k2 := 0) (g2 := 0) rfl rfl rfl ?_
    refine zHeap (h2 := zTo h a ((plB c1 k (β, 0)).1) τ o s rf φ c π sn) To_B' ?_
    exact hE.1 dX4_doPart_68 rfl rfl (by decide) (by decide) (zRi (by unfold pdB; rw [if_pos h4, h5, h6, nI_clamp (by omega), nI_clamp (by omega)]) (by unfold pdB; rw [if_pos h4, h5, h6, nI_clamp (by omega), nI_clamp (by omega)]) rfl)
  · skip
    have hm2 := hm4 (r * 7 + c1) (by omega)
    have hn : ¬ cAt (c 0) L p = 108 := by rw [h4]; decide
    refine hV.aload_n 0 dX4_doPart_0 rfl ?_
    refine hV.getf (v := .ref (a + 25)) dX4_doPart_1 fl_X4_29 To_o rfl ?_
    refine hV.iload_n 1 dX4_doPart_4 rfl ?_
    refine zHeap (h2 := setT (zTo h a β τ o s rf φ c π sn) (a + 25) φ c) (To_T.set.symm) ?_
    refine hV.callV1 (rest := []) dX4_doPart_5 (c_X3_codeAt G (p := p) hL hL2 (by omega)) my_X3_codeAt kv_X4_214 T_o rfl rfl rfl (Nat.le_of_ble_eq_true rfl) (Nat.le_of_ble_eq_true rfl) (Nat.le_of_ble_eq_true rfl) (Nat.le_of_ble_eq_true rfl) (Nat.le_of_ble_eq_true rfl) (st2 := [.int (cAt (c 0) L p)]) (k2 := 0) (g2 := 0) rfl rfl rfl ?_
    refine zHeap (h2 := zTo h a β τ o s rf φ c π sn) To_T' ?_
    refine hV.lookup (off := 61) (tgt := 69) dX4_doPart_8 (by decide) (by rw [h4]; decide) (by decide) ?_
    refine hV.aload_n 0 dX4_doPart_69 rfl ?_
    refine hV.getf (v := .ref (a + 25)) dX4_doPart_70 fl_X4_29 To_o rfl ?_
    refine hV.bipush (v := 8) dX4_doPart_73 (by decide) ?_
    refine hV.iload_n 1 dX4_doPart_75 rfl ?_
    refine hV.iconst (v := 1) dX4_doPart_76 (by decide) ?_
    refine hV.iaddN (a := p) (b := 1) dX4_doPart_77 ?_
    refine zHeap (h2 := setT (zTo h a β τ o s rf φ c π sn) (a + 25) φ c) (To_T.set.symm) ?_
    refine hV.callV1 (rest := []) dX4_doPart_78 (c_X3_digitBelow G (p := p + 1) (w := 8) hL hL2 (by omega)) my_X3_digitBelow kv_X4_217 T_o rfl rfl rfl (Nat.le_of_ble_eq_true rfl) (Nat.le_of_ble_eq_true rfl) (Nat.le_of_ble_eq_true rfl) (Nat.le_of_ble_eq_true rfl) (Nat.le_of_ble_eq_true rfl) (st2 := [.int (dBl (c 0) L 8 (p + 1))]) (k2 := 0) (g2 := 0) rfl rfl rfl ?_
    refine zHeap (h2 := zTo h a β τ o s rf φ c π sn) To_T' ?_
    refine zTop (v := nI r) h5 ?_
    refine hV.bipush (v := 7) dX4_doPart_81 (by decide) ?_
    refine hV.imulN (a := r) (b := 7) dX4_doPart_83 ?_
    refine hV.aload_n 0 dX4_doPart_84 rfl ?_
    refine hV.getf (v := .ref (a + 25)) dX4_doPart_85 fl_X4_29 To_o rfl ?_
    refine hV.bipush (v := 7) dX4_doPart_88 (by decide) ?_
    refine hV.iload_n 1 dX4_doPart_90 rfl ?_
    refine hV.iconst (v := 2) dX4_doPart_91 (by decide) ?_
    refine hV.iaddN (a := p) (b := 2) dX4_doPart_92 ?_
    refine zHeap (h2 := setT (zTo h a β τ o s rf φ c π sn) (a + 25) φ c) (To_T.set.symm) ?_
    refine hV.callV1 (rest := [.int (nI (r * 7))]) dX4_doPart_93 (c_X3_digitBelow G (p := p + 2) (w := 7) hL hL2 (by omega)) my_X3_digitBelow kv_X4_217 T_o rfl rfl rfl (Nat.le_of_ble_eq_true rfl) (Nat.le_of_ble_eq_true rfl) (Nat.le_of_ble_eq_true rfl) (Nat.le_of_ble_eq_true rfl) (Nat.le_of_ble_eq_true rfl) (st2 := [.int (dBl (c 0) L 7 (p + 2)), .int (nI (r * 7))]) (k2 := 0) (g2 := 0) rfl rfl rfl ?_
    refine zHeap (h2 := zTo h a β τ o s rf φ c π sn) To_T' ?_
    refine zTop (v := nI c1) h6 ?_
    refine hV.iaddN (a := r * 7) (b := c1) dX4_doPart_96 ?_
    refine hV.istore (ls2 := [(4, .int (nI ((r * 7) + c1))), (0, .ref a), (1, .int (nI p)), (2, .int (nI u))]) dX4_doPart_97 (by decide) rfl ?_
    refine hV.aload_n 1 dX4_doPart_99 rfl ?_
    refine hV.getf (v := .ref (a + 1)) dX4_doPart_100 fl_X4_12 To_o rfl ?_
    refine hV.iload 0 dX4_doPart_103 rfl ?_
    refine hV.aload_n 1 dX4_doPart_105 rfl ?_
    refine hV.getf (v := .ref (a + 25)) dX4_doPart_106 fl_X4_29 To_o rfl ?_
    refine hV.iload_n 2 dX4_doPart_109 rfl ?_
    refine hV.iconst (v := 3) dX4_doPart_110 (by decide) ?_
    refine hV.iaddN (a := p) (b := 3) dX4_doPart_111 ?_
    refine zHeap (h2 := setT (zTo h a β τ o s rf φ c π sn) (a + 25) φ c) (To_T.set.symm) ?_
    refine hV.callV1 (rest := [.int (nI ((r * 7) + c1)), .ref (a + 1)]) dX4_doPart_112 (c_X3_bendAt G (p := p + 3) hL hL2 (by omega)) my_X3_bendAt kv_X4_223 T_o rfl rfl rfl (Nat.le_of_ble_eq_true rfl) (Nat.le_of_ble_eq_true rfl) (Nat.le_of_ble_eq_true rfl) (Nat.le_of_ble_eq_true rfl) (Nat.le_of_ble_eq_true rfl) (st2 := [.int (bAt (c 0) L (p + 3)), .int (nI ((r * 7) + c1)), .ref (a + 1)]) (k2 := 0) (g2 := 0) rfl rfl rfl ?_
    refine zHeap (h2 := zTo h a β τ o s rf φ c π sn) To_T' ?_
    refine zHeap (h2 := setB (zTo h a β τ o s rf φ c π sn) (a + 1) β) (To_B.set.symm) ?_
    refine hV.callV1 (rest := []) dX4_doPart_115 (c_X0_bendPin G (i := (r * 7) + c1) (by omega) hm hm3 hm2) my_X0_bendPin kv_X4_55 B_o rfl rfl rfl (Nat.le_of_ble_eq_true rfl) (Nat.le_of_ble_eq_true rfl) (Nat.le_of_ble_eq_true rfl) (Nat.le_of_ble_eq_true rfl) (Nat.le_of_ble_eq_true rfl) (st2 := [.int (β 1 ((r * 7) + c1))]) (k2 := 0) (g2 := 0) rfl rfl rfl ?_
    refine zHeap (h2 := zTo h a (bendB β ((r * 7) + c1) m (bAt (c 0) L (p + 3))) τ o s rf φ c π sn) To_B' ?_
    refine hV.pop dX4_doPart_118 rfl ?_
    refine hV.iconst (v := 0) dX4_doPart_119 (by decide) ?_
    exact hE.1 dX4_doPart_120 rfl rfl (by decide) (by decide) (zRi (by unfold pdB; rw [if_neg hn, if_pos h4]) (by unfold pdB; rw [if_neg hn, if_pos h4, h5, h6, hm, nI_clamp (by omega), nI_clamp (by omega), nI_clamp (by omega)]) rfl)
  · skip
    refine hV.aload_n 0 dX4_doPart_0 rfl ?_
    refine hV.getf (v := .ref (a + 25)) dX4_doPart_1 fl_X4_29 To_o rfl ?_
    refine hV.iload_n 1 dX4_doPart_4 rfl ?_
    refine zHeap (h2 := setT (zTo h a β τ o s rf φ c π sn) (a + 25) φ c) (To_T.set.symm) ?_
    refine hV.callV1 (rest := []) dX4_doPart_5 (c_X3_codeAt G (p := p) hL hL2 (by omega)) my_X3_codeAt kv_X4_214 T_o rfl rfl rfl (Nat.le_of_ble_eq_true rfl) (Nat.le_of_ble_eq_true rfl) (Nat.le_of_ble_eq_true rfl) (Nat.le_of_ble_eq_true rfl) (Nat.le_of_ble_eq_true rfl) (st2 := [.int (cAt (c 0) L p)]) (k2 := 0) (g2 := 0) rfl rfl rfl ?_
    refine zHeap (h2 := zTo h a β τ o s rf φ c π sn) To_T' ?_
    refine hV.lookup (off := 113) (tgt := 121) dX4_doPart_8 (by decide) ((lv_osw h4 (by decide)).trans ((lv_osw h4b (by decide)).trans rfl)) (by decide) ?_
    refine hV.aload_n 0 dX4_doPart_121 rfl ?_
    refine hV.getf (v := .ref (a + 1)) dX4_doPart_122 fl_X4_12 To_o rfl ?_
    refine hV.aload_n 0 dX4_doPart_125 rfl ?_
    refine hV.getf (v := .ref (a + 25)) dX4_doPart_126 fl_X4_29 To_o rfl ?_
    refine hV.iload_n 1 dX4_doPart_129 rfl ?_
    refine hV.iconst (v := 1) dX4_doPart_130 (by decide) ?_
    refine hV.iaddN (a := p) (b := 1) dX4_doPart_131 ?_
    refine hV.iload_n 2 dX4_doPart_132 rfl ?_
    refine zHeap (h2 := setT (zTo h a β τ o s rf φ c π sn) (a + 25) φ c) (To_T.set.symm) ?_
    refine hV.callV1 (rest := [.ref (a + 1)]) dX4_doPart_133 (c_X3_numberIn G (p := p + 1) (u := u) hL hL2 (by omega) (by omega)) my_X3_numberIn kv_X4_220 T_o rfl rfl rfl (Nat.le_of_ble_eq_true rfl) (Nat.le_of_ble_eq_true rfl) (Nat.le_of_ble_eq_true rfl) (Nat.le_of_ble_eq_true rfl) (Nat.le_of_ble_eq_true rfl) (st2 := [.int (nmF (c 0) L (p + 1) (u - (p + 1))), .ref (a + 1)]) (k2 := 0) (g2 := 0) rfl rfl rfl ?_
    refine zHeap (h2 := zTo h a β τ o s rf φ c π sn) To_T' ?_
    refine zHeap (h2 := setB (zTo h a β τ o s rf φ c π sn) (a + 1) β) (To_B.set.symm) ?_
    refine hV.callV1 (rest := []) dX4_doPart_136 (c_X0_buyBalls G) my_X0_buyBalls kv_X4_67 B_o rfl rfl rfl (Nat.le_of_ble_eq_true rfl) (Nat.le_of_ble_eq_true rfl) (Nat.le_of_ble_eq_true rfl) (Nat.le_of_ble_eq_true rfl) (Nat.le_of_ble_eq_true rfl) (st2 := []) (k2 := 0) (g2 := 0) rfl rfl rfl ?_
    refine zHeap (h2 := zTo h a (buyB β (nmF (c 0) L (p + 1) (u - (p + 1)))) τ o s rf φ c π sn) To_B' ?_
    refine hV.iconst (v := 0) dX4_doPart_139 (by decide) ?_
    exact hE.1 dX4_doPart_140 rfl rfl (by decide) (by decide) (zRi (by unfold pdB; rw [if_neg h4b, if_neg h4]) (by unfold pdB; rw [if_neg h4b, if_neg h4]) rfl)

theorem c_X3_isComplete_0 {l : Launch} {D : va_G} {base : Nat} (G : l.stackTraces = false) {h : zH} {n : Nat} {b L : Nat} {β : zB} {φ : Nat → Int32} (hL : φ 0 = nI L) (hL2 : L ≤ 60) (hf : stN (β 0) L < 8) :
    zCt l D base 3 yX3_isComplete w_X3_isComplete [.ref b] (setT h b φ β) n 0 0 (zR (some (.int 0)) (setT h b φ β) n) := by
  have := c_X3_isComplete G (D := D) (base := base) (h := h) (n := n) (b := b) (β := β) hL hL2
  simp only [if_pos hf] at this
  exact this
theorem c_X3_isComplete_1 {l : Launch} {D : va_G} {base : Nat} (G : l.stackTraces = false) {h : zH} {n : Nat} {b L : Nat} {β : zB} {φ : Nat → Int32} (hL : φ 0 = nI L) (hL2 : L ≤ 60) (hf : ¬ stN (β 0) L < 8) :
    zCt l D base 3 yX3_isComplete w_X3_isComplete [.ref b] (setT h b φ β) n 0 0 (zR (some (.int 1)) (setT h b φ β) n) := by
  have := c_X3_isComplete G (D := D) (base := base) (h := h) (n := n) (b := b) (β := β) hL hL2
  simp only [if_neg hf] at this
  exact this
def cwN (f : Nat → Int32) (L : Nat) : Nat → Nat → Nat → zB × Int32 → zB × Int32
  | 0, _, _, q => q
  | k + 1, j, fr, q => if ePart f L j = 0 then cwN f L k (j + 1) fr q else cwN f L k (j + 1) (j + 1) ((pdB f L fr j q.1).1, q.2 + (pdB f L fr j q.1).2)
def cwOk (f : Nat → Int32) (L : Nat) : Nat → Nat → Nat → Prop
  | 0, _, _ => True
  | k + 1, j, fr => if ePart f L j = 0 then cwOk f L k (j + 1) fr else pdOk f L fr j ∧ cwOk f L k (j + 1) (j + 1)

set_option maxRecDepth 100000 in
set_option maxHeartbeats 1000000 in
theorem c_X4_work_x1 {l : Launch} {D : va_G} {base : Nat} (G : l.stackTraces = false) {h : zH} {n : Nat} {a : Nat} {β τ : zB} {rf : Nat → Option Nat} {φ : Nat → Int32} {c π : zB} {sn : Option Nat} {o s : Int32} {L : Nat} (hL : φ 0 = nI L) (hL2 : L ≤ 60) (hf : stN (c 0) L < 8) :
    zCt l D base 8 yX4_work w_X4_work [.ref a] (zTo h a β τ o s rf φ c π sn) n 1 6 (zTX "java/lang/IllegalArgumentException" (zTo h a β τ o s rf φ c π sn) n) := by
  refine zCt.of G (by decide) (Nat.le_of_ble_eq_true rfl) (fun Sx V X hV hE hX => ?_)
  show V 0 [(0, .ref a)] [] (zTo h a β τ o s rf φ c π sn) n 0 0
  refine hV.aload_n 0 dX4_work_0 rfl ?_
  refine hV.getf (v := .ref (a + 25)) dX4_work_1 fl_X4_29 To_o rfl ?_
  refine zHeap (h2 := setT (zTo h a β τ o s rf φ c π sn) (a + 25) φ c) (To_T.set.symm) ?_
  refine hV.callV1 (rest := []) dX4_work_4 (c_X3_isComplete_0 G hL hL2 hf) my_X3_isComplete kv_X4_106 T_o rfl rfl rfl (Nat.le_of_ble_eq_true rfl) (Nat.le_of_ble_eq_true rfl) (Nat.le_of_ble_eq_true rfl) (Nat.le_of_ble_eq_true rfl) (Nat.le_of_ble_eq_true rfl) (st2 := [.int 0]) (k2 := 0) (g2 := 0) rfl rfl rfl ?_
  refine zHeap (h2 := zTo h a β τ o s rf φ c π sn) To_T' ?_
  refine hV.if_ne_f (tgt := 20) dX4_work_7 (by decide) (by decide) ?_
  exact hX.1 rfl th_112 dX4_work_10 dX4_work_13 dX4_work_14 dX4_work_16 dX4_work_19 (Nat.le_of_ble_eq_true rfl) (Nat.le_of_ble_eq_true rfl) (by decide) (Nat.le_of_ble_eq_true rfl) (Nat.le_of_ble_eq_true rfl) (Nat.le_of_ble_eq_true rfl) (Nat.le_of_ble_eq_true rfl) (fun n2 hn => ⟨rfl, rfl, hn⟩)

set_option maxRecDepth 100000 in
set_option maxHeartbeats 1000000 in
theorem c_X4_work {l : Launch} {D : va_G} {base : Nat} (G : l.stackTraces = false) {h : zH} {n : Nat} {a : Nat} {β τ : zB} {rf : Nat → Option Nat} {φ : Nat → Int32} {c π : zB} {sn : Option Nat} {ρ : Nat → zB} {κ : zB} {u v : Nat} (hu : u < 6) (hv : v ≤ 6) (hx : zExt a n h rf sn ρ κ) {L : Nat} (hL : φ 0 = nI L) (hL2 : L ≤ 60) {J : zB → Prop} (hJ : ∀ γ, J γ → ∃ m, BI γ m) (hf : ¬ stN (c 0) L < 8) (hB0 : J β) (hok0 : cwOk (c 0) L (L + 1) 0 0) (hkeep : ∀ (γ : zB) (p u : Nat), J γ → pdOk (c 0) L p u → J (pdB (c 0) L p u γ).1) :
    zCt l D base 8 yX4_work w_X4_work [.ref a] (zTo h a β τ (nI u) (nI v) rf φ c π sn) n 11 235 (zRT (some (.int ((cwN (c 0) L (L + 1) 0 0 (β, 0)).2))) (fun h' n' => ∃ h2 rf2, h' = zTo h2 a ((cwN (c 0) L (L + 1) 0 0 (β, 0)).1) τ (if v < 6 then nI u else nI ((u + 1) % 6)) (if v < 6 then nI (v + 1) else nI v) rf2 (va_up φ 0 0) c π sn ∧ zSv a n h rf sn ρ κ ((u + v) % 6) β h2 rf2 n')) := by
  refine zCt.of G (by decide) (Nat.le_of_ble_eq_true rfl) (fun Sx V X hV hE hX => ?_)
  show V 0 [(0, .ref a)] [] (zTo h a β τ (nI u) (nI v) rf φ c π sn) n 0 0
  refine hV.aload_n 0 dX4_work_0 rfl ?_
  refine hV.getf (v := .ref (a + 25)) dX4_work_1 fl_X4_29 To_o rfl ?_
  refine zHeap (h2 := setT (zTo h a β τ (nI u) (nI v) rf φ c π sn) (a + 25) φ c) (To_T.set.symm) ?_
  refine hV.callV1 (rest := []) dX4_work_4 (c_X3_isComplete_1 G hL hL2 hf) my_X3_isComplete kv_X4_106 T_o rfl rfl rfl (Nat.le_of_ble_eq_true rfl) (Nat.le_of_ble_eq_true rfl) (Nat.le_of_ble_eq_true rfl) (Nat.le_of_ble_eq_true rfl) (Nat.le_of_ble_eq_true rfl) (st2 := [.int 1]) (k2 := 0) (g2 := 0) rfl rfl rfl ?_
  refine zHeap (h2 := zTo h a β τ (nI u) (nI v) rf φ c π sn) To_T' ?_
  refine hV.if_ne_t (tgt := 20) dX4_work_7 (by decide) (by decide) ?_
  refine hV.aload_n 0 dX4_work_20 rfl ?_
  refine hV.getf (v := .ref (a + 23)) dX4_work_21 fl_X4_22 To_o rfl ?_
  refine hV.aload_n 0 dX4_work_24 rfl ?_
  refine hV.getf (v := .ref (a + 1)) dX4_work_25 fl_X4_12 To_o rfl ?_
  refine hV.callV3 (rest := []) dX4_work_28 (c_X1_save G hu hv hx) my_X1_save kv_X4_51 To_h rfl rfl rfl (Nat.le_of_ble_eq_true rfl) (Nat.le_of_ble_eq_true rfl) (Nat.le_of_ble_eq_true rfl) (Nat.le_of_ble_eq_true rfl) (Nat.le_of_ble_eq_true rfl) (st2 := []) (k2 := 11) (g2 := 235) rfl rfl rfl (fun h1 n1 hn1 hs1 => ?_)
  obtain ⟨hh1, rr1, rfl, sv1⟩ := hs1
  refine hV.iconst (v := 0) dX4_work_31 (by decide) ?_
  refine hV.istore_n (ls2 := [(1, .int 0), (0, .ref a)]) dX4_work_32 (by decide) rfl ?_
  refine hV.iconst (v := 0) dX4_work_33 (by decide) ?_
  refine hV.istore_n (ls2 := [(2, .int 0), (1, .int 0), (0, .ref a)]) dX4_work_34 (by decide) rfl ?_
  refine hV.iconst (v := 0) dX4_work_35 (by decide) ?_
  refine hV.istore_n (ls2 := [(3, .int 0), (2, .int 0), (1, .int 0), (0, .ref a)]) dX4_work_36 (by decide) rfl ?_
  have loop : ∀ (k j : Nat) (fr : Nat) (γ : zB) (s1 : Int32), j + k = L + 1 → (fr ≤ j) → (cwOk (c 0) L k j fr) → (J γ) → (cwN (c 0) L k j fr (γ, s1) = cwN (c 0) L (L + 1) 0 0 (β, 0)) → V 37 [(3, .int (nI j)), (2, .int (nI fr)), (1, .int s1), (0, .ref a)] [] (zTo hh1 a γ τ (if v < 6 then nI u else nI ((u + 1) % 6)) (if v < 6 then nI (v + 1) else nI v) rr1 φ c π sn) n1 11 235 := by
    intro k
    induction k with
    | zero =>
      intro j fr γ s1 hj hfr hok hBI he
      refine hV.iload_n 0 dX4_work_37 rfl ?_
      refine hV.aload_n 3 dX4_work_38 rfl ?_
      refine hV.getf (v := .ref (a + 25)) dX4_work_39 fl_X4_29 To_o rfl ?_
      refine hV.getf (v := .int (φ 0)) dX4_work_42 fl_X4_95 To_T.1 rfl ?_
      refine zTop (v := nI L) hL ?_
      refine hV.icmp_gt_t (tgt := 78) dX4_work_45 (by decide) ((nI_ltI (a := L) (b := j) (by omega) (by omega)).mpr (by omega)) ?_
      refine hV.aload_n 3 dX4_work_78 rfl ?_
      refine hV.getf (v := .ref (a + 25)) dX4_work_79 fl_X4_29 To_o rfl ?_
      refine zHeap (h2 := setT (zTo hh1 a γ τ (if v < 6 then nI u else nI ((u + 1) % 6)) (if v < 6 then nI (v + 1) else nI v) rr1 φ c π sn) (a + 25) φ c) (To_T.set.symm) ?_
      refine hV.callV1 (rest := []) dX4_work_82 (c_X3_clear G) my_X3_clear kv_X4_99 T_o rfl rfl rfl (Nat.le_of_ble_eq_true rfl) (Nat.le_of_ble_eq_true rfl) (Nat.le_of_ble_eq_true rfl) (Nat.le_of_ble_eq_true rfl) (Nat.le_of_ble_eq_true rfl) (st2 := [.int (φ 0)]) (k2 := 11) (g2 := 235) rfl rfl rfl ?_
      refine zHeap (h2 := zTo hh1 a γ τ (if v < 6 then nI u else nI ((u + 1) % 6)) (if v < 6 then nI (v + 1) else nI v) rr1 (va_up φ 0 0) c π sn) To_T' ?_
      refine hV.pop dX4_work_85 rfl ?_
      refine hV.iload_n 2 dX4_work_86 rfl ?_
      exact hE.1 dX4_work_87 rfl rfl (Nat.le_of_ble_eq_true rfl) (Nat.le_of_ble_eq_true rfl) (zRTi (by rw [← he]; rfl) ⟨hh1, rr1, (by rw [← he]; rfl), sv1⟩)
    | succ k ih =>
      intro j fr γ s1 hj hfr hok hBI he
      obtain ⟨m, hB⟩ := hJ _ hBI
      refine hV.iload_n 0 dX4_work_37 rfl ?_
      refine hV.aload_n 3 dX4_work_38 rfl ?_
      refine hV.getf (v := .ref (a + 25)) dX4_work_39 fl_X4_29 To_o rfl ?_
      refine hV.getf (v := .int (φ 0)) dX4_work_42 fl_X4_95 To_T.1 rfl ?_
      refine zTop (v := nI L) hL ?_
      refine hV.icmp_gt_f (tgt := 78) dX4_work_45 (by decide) (fun q => absurd ((nI_ltI (a := L) (b := j) (by omega) (by omega)).mp q) (by omega)) ?_
      refine hV.aload_n 3 dX4_work_48 rfl ?_
      refine hV.getf (v := .ref (a + 25)) dX4_work_49 fl_X4_29 To_o rfl ?_
      refine hV.iload_n 0 dX4_work_52 rfl ?_
      refine zHeap (h2 := setT (zTo hh1 a γ τ (if v < 6 then nI u else nI ((u + 1) % 6)) (if v < 6 then nI (v + 1) else nI v) rr1 φ c π sn) (a + 25) φ c) (To_T.set.symm) ?_
      refine hV.callV1 (rest := []) dX4_work_53 (c_X3_endsPart G (p := j) hL hL2 (by omega)) my_X3_endsPart kv_X4_115 T_o rfl rfl rfl (Nat.le_of_ble_eq_true rfl) (Nat.le_of_ble_eq_true rfl) (Nat.le_of_ble_eq_true rfl) (Nat.le_of_ble_eq_true rfl) (Nat.le_of_ble_eq_true rfl) (st2 := [.int (ePart (c 0) L j)]) (k2 := 11) (g2 := 235) rfl rfl rfl ?_
      refine zHeap (h2 := zTo hh1 a γ τ (if v < 6 then nI u else nI ((u + 1) % 6)) (if v < 6 then nI (v + 1) else nI v) rr1 φ c π sn) To_T' ?_
      by_cases c56_2 : (ePart (c 0) L j) = 0
      · refine hV.if_eq_t (tgt := 72) dX4_work_56 (by decide) c56_2 ?_
        refine hV.iinc 0 (v := nI (j + 1)) (ls2 := [(3, .int (nI (j + 1))), (2, .int (nI fr)), (1, .int s1), (0, .ref a)]) dX4_work_72 rfl (nI_1 _) (by decide) rfl ?_
        refine hV.goto (tgt := 37) dX4_work_75 (by decide) ?_
        exact ih (j + 1) fr _ _ (by omega) (by omega) (by have h9 := hok; simp only [cwOk] at h9; rw [if_pos c56_2] at h9; exact h9) hBI (by rw [← he]; simp only [cwN]; rw [if_pos c56_2])
      · refine hV.if_eq_f (tgt := 72) dX4_work_56 (by decide) c56_2 ?_
        refine hV.iload_n 2 dX4_work_59 rfl ?_
        refine hV.aload_n 3 dX4_work_60 rfl ?_
        refine hV.iload_n 1 dX4_work_61 rfl ?_
        refine hV.iload_n 0 dX4_work_62 rfl ?_
        have hd9 := hok
        simp only [cwOk] at hd9
        rw [if_neg c56_2] at hd9
        refine hV.callV1 (rest := [.int s1]) dX4_work_63 (c_X4_doPart G hL hL2 (p := fr) (u := j) (m := m) (by omega) (by omega) hB hd9.1) my_X4_doPart kv_X4_118 To_o rfl rfl rfl (Nat.le_of_ble_eq_true rfl) (Nat.le_of_ble_eq_true rfl) (Nat.le_of_ble_eq_true rfl) (Nat.le_of_ble_eq_true rfl) (Nat.le_of_ble_eq_true rfl) (st2 := [.int ((pdB (c 0) L fr j γ).2), .int s1]) (k2 := 11) (g2 := 235) rfl rfl rfl ?_
        refine hV.iadd dX4_work_66 ?_
        refine hV.istore_n (ls2 := [(1, .int (s1 + ((pdB (c 0) L fr j γ).2))), (3, .int (nI j)), (2, .int (nI fr)), (0, .ref a)]) dX4_work_67 (by decide) rfl ?_
        refine hV.iload_n 1 dX4_work_68 rfl ?_
        refine hV.iconst (v := 1) dX4_work_69 (by decide) ?_
        refine hV.iaddN (a := j) (b := 1) dX4_work_70 ?_
        refine hV.istore_n (ls2 := [(2, .int (nI (j + 1))), (1, .int (s1 + ((pdB (c 0) L fr j γ).2))), (3, .int (nI j)), (0, .ref a)]) dX4_work_71 (by decide) rfl ?_
        refine hV.iinc 2 (v := nI (j + 1)) (ls2 := [(3, .int (nI (j + 1))), (2, .int (nI (j + 1))), (1, .int (s1 + ((pdB (c 0) L fr j γ).2))), (0, .ref a)]) dX4_work_72 rfl (nI_1 _) (by decide) rfl ?_
        refine hV.goto (tgt := 37) dX4_work_75 (by decide) ?_
        exact ih (j + 1) (j + 1) _ _ (by omega) (by omega) hd9.2 (hkeep _ _ _ hBI hd9.1) (by rw [← he]; simp only [cwN]; rw [if_neg c56_2])
  exact loop (L + 1) 0 0 β 0 (by omega) (Nat.le_refl _) hok0 hB0 rfl
