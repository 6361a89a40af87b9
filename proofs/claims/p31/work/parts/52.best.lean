/-! The law's look for the best column -/
theorem way_c {B : Nat} {β π : zB} {z : zZ} (h : RB B β z) {c p : Nat} (hp : p < 7) {x : Int32} (e : x = wv z c p) : cbrP (β 1) c π 0 p = x := by
  rw [cbr_cv hp, cv_wv h.1 hp, e]
theorem way_g {B : Nat} {β π : zB} {z : zZ} (h : RB B β z) {c p : Nat} (hc : c < 7) (hp : p < 7) {x : Int32} (e : x = wv z c p) : gawP (β 1) c π 1 p = x := by
  rw [gaw_gv hc hp, gv_wv h.1 hc hp, e]
theorem sm_t {B : Nat} {z : zZ} {g k w : Nat → Int32} {c p : Nat} (hz : ZI B z) (vg : VG z g) (vk : VK z k) (hp : p < 7) (hw : w p = wv z c p) (h0 : ¬ opL g k p = 0) : smN z (wv z c) p + w p * k ((5 * p) + 1) = smN z (wv z c) (p + 1) := by
  show _ = smN z (wv z c) p + (if isOpenZ z p = 0 then 0 else wv z c p * z (132 + 5 * p + 1))
  rw [← opL_eq vg vk hp (hz.2.2.2.2.1 p hp).1, if_neg h0, hw, vk _ (by omega)]
  rfl
theorem sm_f {B : Nat} {z : zZ} {g k : Nat → Int32} {c p : Nat} (hz : ZI B z) (vg : VG z g) (vk : VK z k) (hp : p < 7) (h0 : opL g k p = 0) : smN z (wv z c) p + 0 = smN z (wv z c) (p + 1) := by
  show _ = smN z (wv z c) p + (if isOpenZ z p = 0 then 0 else wv z c p * z (132 + 5 * p + 1))
  rw [← opL_eq vg vk hp (hz.2.2.2.2.1 p hp).1, if_pos h0]
theorem ms_e {z : zZ} {c p : Nat} {w7 : Int32} (hw : w7 = alN (wv z c) 7) (hp : p = 7) : 1000 * smN z (wv z c) p / w7 = msV z (wv z c) := by
  unfold msV
  rw [hp, hw, Int32.mul_comm]
theorem bc_t {z : zZ} {c : Nat} (h : msV z (wv z c) ≤ (bcN z c).2) : bcN z (c + 1) = bcN z c := if_pos h
theorem bc_f {z : zZ} {c : Nat} (h : ¬ msV z (wv z c) ≤ (bcN z c).2) : bcN z (c + 1) = (nI c, msV z (wv z c)) := if_neg h
theorem bc_z {B c : Nat} {β : zB} {z : zZ} (h : RB B β z) (hc : c = 7) : (bcC β 7).1 = (bcN z c).1 := by rw [hc, bc_bc h 6 (by omega)]
set_option maxRecDepth 100000 in
set_option maxHeartbeats 1000000 in
theorem c_L_isBest {l : Launch} {D : va_G} {base : Nat} (G : l.stackTraces = false) {h : zH} {n : Nat} {a : Nat} {β τ : zB} {rf : Nat → Option Nat} {φ : Nat → Int32} {c π : zB} {sn : Option Nat} {o s : Int32} {B : Nat} {z : zZ} {g pins k t : Nat → Int32} (hg : h (a + 31) = some (.inl (19, .inl g))) (hp : h (a + 32) = some (.inl (56, .inl pins))) (hk : h (a + 33) = some (.inl (35, .inl k))) (ht : h (a + 34) = some (.inl (8, .inl t))) (hR : RB B β z) (hI : VI z) (vg : VG z g) (vp : VP z pins) (vk : VK z k) (vt : VT z t) (hB : B < 2 ^ 27) (hn : a + 35 ≤ n) :
    zCt l D base 13 yL_isBest w_L_isBest [.ref a, .ref (a + 31), .ref (a + 32), .ref (a + 33)] (zTo h a β τ o s rf φ c π sn) n 1 8 (zRT (some (.int 1)) (fun H2 n2 => ∃ h2 π2, H2 = zTo h2 a β τ o s rf φ c π2 sn ∧ (∀ q, q < n → h2 q = h q) ∧ n2 = n + 1)) := by
  refine zCt.of G (by decide) (Nat.le_of_ble_eq_true rfl) (fun Sx V X hV hE hX => ?_)
  show V 0 [(0, .ref a), (1, .ref (a + 31)), (2, .ref (a + 32)), (3, .ref (a + 33))] [] (zTo h a β τ o s rf φ c π sn) n 0 0
  refine hV.bipush (v := 8) dL_isBest_0 (by decide) ?_
  refine hV.newi (N := 8) (h2 := zTo (zput h n (some (.inl (8, .inl (fun _ => 0))))) a β τ o s rf φ c π sn) dL_isBest_2 ⟨by decide, by decide⟩ (by decide) (Nat.le_of_ble_eq_true rfl) (Nat.le_of_ble_eq_true rfl) ((To_z (by omega)).trans (congrArg (fun w => zTo w _ _ _ _ _ _ _ _ _ _) rfl)) ?_
  refine hV.astore (ls2 := [(4, .ref n), (0, .ref a), (1, .ref (a + 31)), (2, .ref (a + 32)), (3, .ref (a + 33))]) dL_isBest_4 (by decide) rfl ?_
  refine hV.iconst (v := (-1)) dL_isBest_6 (by decide) ?_
  refine hV.istore (ls2 := [(5, .int (-1)), (4, .ref n), (0, .ref a), (1, .ref (a + 31)), (2, .ref (a + 32)), (3, .ref (a + 33))]) dL_isBest_7 (by decide) rfl ?_
  refine hV.iconst (v := (-1)) dL_isBest_9 (by decide) ?_
  refine hV.istore (ls2 := [(6, .int (-1)), (5, .int (-1)), (4, .ref n), (0, .ref a), (1, .ref (a + 31)), (2, .ref (a + 32)), (3, .ref (a + 33))]) dL_isBest_10 (by decide) rfl ?_
  refine hV.iconst (v := 0) dL_isBest_12 (by decide) ?_
  refine hV.istore (ls2 := [(7, .int 0), (6, .int (-1)), (5, .int (-1)), (4, .ref n), (0, .ref a), (1, .ref (a + 31)), (2, .ref (a + 32)), (3, .ref (a + 33))]) dL_isBest_13 (by decide) rfl ?_
  have loop : ∀ (r9 c9 : Nat) (w9 : Nat → Int32) (π9 : zB), c9 + r9 = 7 → V 15 [(5, .int ((bcN z c9).1)), (6, .int ((bcN z c9).2)), (7, .int (nI c9)), (4, .ref n), (0, .ref a), (1, .ref (a + 31)), (2, .ref (a + 32)), (3, .ref (a + 33))] [] (zTo (zput h n (some (.inl (8, .inl w9)))) a β τ o s rf φ c π9 sn) (n + 1) 1 8 := by
    intro r9
    induction r9 with
    | zero =>
      intro c9 w9 π9 hc9 
      refine hV.iload 2 dL_isBest_15 rfl ?_
      refine hV.bipush (v := 7) dL_isBest_17 (by decide) ?_
      refine hV.icmp_ge_t (tgt := 157) dL_isBest_19 (by decide) ((nI_leI (a := 7) (b := c9) (by omega) (by omega)).mpr (by omega)) ?_
      have e9 : c9 = 7 := by omega
      refine hV.aload_n 4 dL_isBest_157 rfl ?_
      refine hV.callV3 (rest := []) dL_isBest_158 (c_X4_bestColumn G) my_X4_bestColumn kv_L_94 To_o rfl rfl rfl (Nat.le_of_ble_eq_true rfl) (Nat.le_of_ble_eq_true rfl) (Nat.le_of_ble_eq_true rfl) (Nat.le_of_ble_eq_true rfl) (Nat.le_of_ble_eq_true rfl) (st2 := [.int ((bcC β 7).1)]) (k2 := 1) (g2 := 8) rfl rfl rfl (fun h1 n1 hn1 hs1 => ?_)
      obtain ⟨pi1, rfl, rfl⟩ := hs1
      refine hV.iload 0 dL_isBest_161 rfl ?_
      refine hV.icmp_ne_f (tgt := 170) dL_isBest_163 (by decide) (bc_z hR e9) ?_
      refine hV.iconst (v := 1) dL_isBest_166 (by decide) ?_
      refine hV.goto (tgt := 171) dL_isBest_167 (by decide) ?_
      exact hE.1 dL_isBest_171 rfl rfl (Nat.le_of_ble_eq_true rfl) (Nat.le_of_ble_eq_true rfl) (zRTi rfl ⟨_, _, rfl, fun q hq => zput_ne (by omega), rfl⟩)
    | succ r9 ih =>
      intro c9 w9 π9 hc9 
      refine hV.iload 2 dL_isBest_15 rfl ?_
      refine hV.bipush (v := 7) dL_isBest_17 (by decide) ?_
      refine hV.icmp_ge_f (tgt := 157) dL_isBest_19 (by decide) (fun q => absurd ((nI_leI (a := 7) (b := c9) (by omega) (by omega)).mp q) (by omega)) ?_
      refine hV.iload 2 dL_isBest_22 rfl ?_
      refine hV.aload_n 6 dL_isBest_24 rfl ?_
      refine hV.aload 3 dL_isBest_25 rfl ?_
      refine hV.callS1 (rest := []) dL_isBest_27 (c_L_ways G (pins := pins) (w := w9) (c := c9) (by omega) ((To_out (by omega)).trans ((zput_ne (by omega)).trans hp)) ((To_out (by omega)).trans zput_at) (by omega)) my_L_ways ks_L_85 rfl rfl (Nat.le_of_ble_eq_true rfl) (Nat.le_of_ble_eq_true rfl) (Nat.le_of_ble_eq_true rfl) (Nat.le_of_ble_eq_true rfl) (Nat.le_of_ble_eq_true rfl) (st2 := []) (k2 := 1) (g2 := 8) rfl rfl rfl ?_
      refine zHeap (h2 := zTo (zput h n (some (.inl (8, .inl (wyL pins c9 w9))))) a β τ o s rf φ c π9 sn) ((To_z (by omega)).trans (congrArg (fun w => zTo w _ _ _ _ _ _ _ _ _ _) zput_zput)) ?_
      have hc9 : c9 < 7 := by omega
      have hw := wyL_wv vp hR.2.2.p hc9 w9
      obtain ⟨w3, hw3⟩ : ∃ w, w = wyL pins c9 w9 := ⟨_, rfl⟩
      rw [← hw3] at hw ⊢
      refine hV.iconst (v := 0) dL_isBest_30 (by decide) ?_
      refine hV.istore (ls2 := [(8, .int 0), (5, .int ((bcN z c9).1)), (6, .int ((bcN z c9).2)), (7, .int (nI c9)), (4, .ref n), (0, .ref a), (1, .ref (a + 31)), (2, .ref (a + 32)), (3, .ref (a + 33))]) dL_isBest_31 (by decide) rfl ?_
      refine hV.iconst (v := 0) dL_isBest_33 (by decide) ?_
      refine hV.istore (ls2 := [(9, .int 0), (8, .int 0), (5, .int ((bcN z c9).1)), (6, .int ((bcN z c9).2)), (7, .int (nI c9)), (4, .ref n), (0, .ref a), (1, .ref (a + 31)), (2, .ref (a + 32)), (3, .ref (a + 33))]) dL_isBest_34 (by decide) rfl ?_
      have loop2 : ∀ (r8 p9 : Nat) (π8 : zB), p9 + r8 = 7 → V 36 [(8, .int (smN z (wv z c9) p9)), (9, .int (nI p9)), (5, .int ((bcN z c9).1)), (6, .int ((bcN z c9).2)), (7, .int (nI c9)), (4, .ref n), (0, .ref a), (1, .ref (a + 31)), (2, .ref (a + 32)), (3, .ref (a + 33))] [] (zTo (zput h n (some (.inl (8, .inl w3)))) a β τ o s rf φ c π8 sn) (n + 1) 1 8 := by
        intro r8
        induction r8 with
        | zero =>
          intro p9 π8 hp9 
          refine hV.iload 1 dL_isBest_36 rfl ?_
          refine hV.bipush (v := 7) dL_isBest_38 (by decide) ?_
          refine hV.icmp_ge_t (tgt := 116) dL_isBest_40 (by decide) ((nI_leI (a := 7) (b := p9) (by omega) (by omega)).mpr (by omega)) ?_
          have e8 : p9 = 7 := by omega
          refine hV.pick [2, 3, 4, 0, 5, 6, 7, 8, 9] (ls2 := [(5, .int ((bcN z c9).1)), (6, .int ((bcN z c9).2)), (7, .int (nI c9)), (8, .int (smN z (wv z c9) p9)), (4, .ref n), (0, .ref a), (1, .ref (a + 31)), (2, .ref (a + 32)), (3, .ref (a + 33))]) rfl ?_
          refine hV.sipush (v := 1000) dL_isBest_116 (by decide) ?_
          refine hV.iload 3 dL_isBest_119 rfl ?_
          refine hV.imul dL_isBest_121 ?_
          refine hV.aload 4 dL_isBest_122 rfl ?_
          refine hV.bipush (v := 7) dL_isBest_124 (by decide) ?_
          refine hV.iald (j := 7) dL_isBest_126 ((To_out (by omega)).trans zput_at) ⟨by decide, by decide⟩ (by decide) ?_
          refine hV.idiv dL_isBest_127 (by rw [hw.2]; exact wv_all z c9 hc9) ?_
          refine zTop (v := msV z (wv z c9)) (ms_e hw.2 e8) ?_
          refine hV.iload 1 dL_isBest_128 rfl ?_
          by_cases c130_2 : (msV z (wv z c9)) ≤ ((bcN z c9).2)
          · refine hV.icmp_le_t (tgt := 151) dL_isBest_130 (by decide) c130_2 ?_
            refine hV.iinc 2 (v := nI (c9 + 1)) (ls2 := [(7, .int (nI (c9 + 1))), (5, .int ((bcN z c9).1)), (6, .int ((bcN z c9).2)), (8, .int (smN z (wv z c9) p9)), (4, .ref n), (0, .ref a), (1, .ref (a + 31)), (2, .ref (a + 32)), (3, .ref (a + 33))]) dL_isBest_151 rfl (nI_1 _) (by decide) rfl ?_
            refine hV.goto (tgt := 15) dL_isBest_154 (by decide) ?_
            refine hV.pick [1, 2, 0, 4, 5, 6, 7, 8] (ls2 := [(5, .int ((bcN z c9).1)), (6, .int ((bcN z c9).2)), (7, .int (nI (c9 + 1))), (4, .ref n), (0, .ref a), (1, .ref (a + 31)), (2, .ref (a + 32)), (3, .ref (a + 33))]) rfl ?_
            have eb := bc_t c130_2
            have ih9 := ih (c9 + 1) w3 π8 (by omega)
            rw [eb] at ih9
            exact ih9
          · refine hV.icmp_le_f (tgt := 151) dL_isBest_130 (by decide) c130_2 ?_
            refine hV.iload 2 dL_isBest_133 rfl ?_
            refine hV.istore (ls2 := [(5, .int (nI c9)), (6, .int ((bcN z c9).2)), (7, .int (nI c9)), (8, .int (smN z (wv z c9) p9)), (4, .ref n), (0, .ref a), (1, .ref (a + 31)), (2, .ref (a + 32)), (3, .ref (a + 33))]) dL_isBest_135 (by decide) rfl ?_
            refine hV.sipush (v := 1000) dL_isBest_137 (by decide) ?_
            refine hV.iload 3 dL_isBest_140 rfl ?_
            refine hV.imul dL_isBest_142 ?_
            refine hV.aload 4 dL_isBest_143 rfl ?_
            refine hV.bipush (v := 7) dL_isBest_145 (by decide) ?_
            refine hV.iald (j := 7) dL_isBest_147 ((To_out (by omega)).trans zput_at) ⟨by decide, by decide⟩ (by decide) ?_
            refine hV.idiv dL_isBest_148 (by rw [hw.2]; exact wv_all z c9 hc9) ?_
            refine zTop (v := msV z (wv z c9)) (ms_e hw.2 e8) ?_
            refine hV.istore (ls2 := [(6, .int (msV z (wv z c9))), (5, .int (nI c9)), (7, .int (nI c9)), (8, .int (smN z (wv z c9) p9)), (4, .ref n), (0, .ref a), (1, .ref (a + 31)), (2, .ref (a + 32)), (3, .ref (a + 33))]) dL_isBest_149 (by decide) rfl ?_
            refine hV.iinc 2 (v := nI (c9 + 1)) (ls2 := [(7, .int (nI (c9 + 1))), (6, .int (msV z (wv z c9))), (5, .int (nI c9)), (8, .int (smN z (wv z c9) p9)), (4, .ref n), (0, .ref a), (1, .ref (a + 31)), (2, .ref (a + 32)), (3, .ref (a + 33))]) dL_isBest_151 rfl (nI_1 _) (by decide) rfl ?_
            refine hV.goto (tgt := 15) dL_isBest_154 (by decide) ?_
            refine hV.pick [2, 1, 0, 4, 5, 6, 7, 8] (ls2 := [(5, .int (nI c9)), (6, .int (msV z (wv z c9))), (7, .int (nI (c9 + 1))), (4, .ref n), (0, .ref a), (1, .ref (a + 31)), (2, .ref (a + 32)), (3, .ref (a + 33))]) rfl ?_
            have eb := bc_f c130_2
            have ih9 := ih (c9 + 1) w3 π8 (by omega)
            rw [eb] at ih9
            exact ih9
        | succ r8 ih =>
          intro p9 π8 hp9 
          refine hV.iload 1 dL_isBest_36 rfl ?_
          refine hV.bipush (v := 7) dL_isBest_38 (by decide) ?_
          refine hV.icmp_ge_f (tgt := 116) dL_isBest_40 (by decide) (fun q => absurd ((nI_leI (a := 7) (b := p9) (by omega) (by omega)).mp q) (by omega)) ?_
          refine hV.aload_n 6 dL_isBest_43 rfl ?_
          refine hV.iload 4 dL_isBest_44 rfl ?_
          refine hV.iload 1 dL_isBest_46 rfl ?_
          refine hV.callV1 (rest := []) dL_isBest_48 (c_X4_ways G (π := π8) (c1 := c9) (p := p9) (by omega) (by omega)) my_X4_ways kv_L_89 To_o rfl rfl rfl (Nat.le_of_ble_eq_true rfl) (Nat.le_of_ble_eq_true rfl) (Nat.le_of_ble_eq_true rfl) (Nat.le_of_ble_eq_true rfl) (Nat.le_of_ble_eq_true rfl) (st2 := [.int (cbrP (β 1) c9 π8 0 p9)]) (k2 := 1) (g2 := 8) rfl rfl rfl ?_
          refine zTop (v := w3 p9) (way_c hR (by omega) (hw.1 p9 (by omega))) ?_
          obtain ⟨π3, hπ3⟩ : ∃ w : zB, w = cbrP (β 1) c9 π8 := ⟨_, rfl⟩
          rw [← hπ3]
          refine hV.aload 5 dL_isBest_51 rfl ?_
          refine hV.iload 1 dL_isBest_53 rfl ?_
          refine hV.iald (j := p9) dL_isBest_55 ((To_out (by omega)).trans zput_at) (zix_nI (by omega)) (by omega) ?_
          refine hV.icmp_ne_f (tgt := 75) dL_isBest_56 (by decide) rfl ?_
          refine hV.aload_n 6 dL_isBest_59 rfl ?_
          refine hV.iload 4 dL_isBest_60 rfl ?_
          refine hV.iload 1 dL_isBest_62 rfl ?_
          refine hV.callV1 (rest := []) dL_isBest_64 (c_X4_walked G (π := π3) (c1 := c9) (p := p9) (by omega) (by omega)) my_X4_walked kv_L_91 To_o rfl rfl rfl (Nat.le_of_ble_eq_true rfl) (Nat.le_of_ble_eq_true rfl) (Nat.le_of_ble_eq_true rfl) (Nat.le_of_ble_eq_true rfl) (Nat.le_of_ble_eq_true rfl) (st2 := [.int (gawP (β 1) c9 π3 1 p9)]) (k2 := 1) (g2 := 8) rfl rfl rfl ?_
          refine zTop (v := w3 p9) (way_g hR hc9 (by omega) (hw.1 p9 (by omega))) ?_
          obtain ⟨π4, hπ4⟩ : ∃ w : zB, w = gawP (β 1) c9 π3 := ⟨_, rfl⟩
          rw [← hπ4]
          refine hV.aload 5 dL_isBest_67 rfl ?_
          refine hV.iload 1 dL_isBest_69 rfl ?_
          refine hV.iald (j := p9) dL_isBest_71 ((To_out (by omega)).trans zput_at) (zix_nI (by omega)) (by omega) ?_
          refine hV.icmp_eq_t (tgt := 77) dL_isBest_72 (by decide) rfl ?_
          refine hV.iload 0 dL_isBest_77 rfl ?_
          refine hV.iload 1 dL_isBest_79 rfl ?_
          refine hV.aload_n 7 dL_isBest_81 rfl ?_
          refine hV.aload_n 9 dL_isBest_82 rfl ?_
          refine hV.callS1 (rest := [.int (smN z (wv z c9) p9)]) dL_isBest_83 (c_L_isOpen G (g := g) (k := k) (p := p9) ((To_out (by omega)).trans ((zput_ne (by omega)).trans hg)) ((To_out (by omega)).trans ((zput_ne (by omega)).trans hk)) (by omega)) my_L_isOpen ks_L_67 rfl rfl (Nat.le_of_ble_eq_true rfl) (Nat.le_of_ble_eq_true rfl) (Nat.le_of_ble_eq_true rfl) (Nat.le_of_ble_eq_true rfl) (Nat.le_of_ble_eq_true rfl) (st2 := [.int (opL g k p9), .int (smN z (wv z c9) p9)]) (k2 := 1) (g2 := 8) rfl rfl rfl ?_
          by_cases c86_5 : (opL g k p9) = 0
          · refine hV.if_eq_t (tgt := 106) dL_isBest_86 (by decide) c86_5 ?_
            refine hV.iconst (v := 0) dL_isBest_106 (by decide) ?_
            refine hV.iadd dL_isBest_107 ?_
            refine hV.istore (ls2 := [(8, .int ((smN z (wv z c9) p9) + 0)), (9, .int (nI p9)), (5, .int ((bcN z c9).1)), (6, .int ((bcN z c9).2)), (7, .int (nI c9)), (4, .ref n), (0, .ref a), (1, .ref (a + 31)), (2, .ref (a + 32)), (3, .ref (a + 33))]) dL_isBest_108 (by decide) rfl ?_
            refine hV.iinc 1 (v := nI (p9 + 1)) (ls2 := [(9, .int (nI (p9 + 1))), (8, .int ((smN z (wv z c9) p9) + 0)), (5, .int ((bcN z c9).1)), (6, .int ((bcN z c9).2)), (7, .int (nI c9)), (4, .ref n), (0, .ref a), (1, .ref (a + 31)), (2, .ref (a + 32)), (3, .ref (a + 33))]) dL_isBest_110 rfl (nI_1 _) (by decide) rfl ?_
            refine hV.goto (tgt := 36) dL_isBest_113 (by decide) ?_
            refine hV.pick [1, 0, 2, 3, 4, 5, 6, 7, 8, 9] (ls2 := [(8, .int ((smN z (wv z c9) p9) + 0)), (9, .int (nI (p9 + 1))), (5, .int ((bcN z c9).1)), (6, .int ((bcN z c9).2)), (7, .int (nI c9)), (4, .ref n), (0, .ref a), (1, .ref (a + 31)), (2, .ref (a + 32)), (3, .ref (a + 33))]) rfl ?_
            have es := sm_f hR.2.2 vg vk (c := c9) (by omega) c86_5
            rw [es]
            exact ih (p9 + 1) _ (by omega)
          · refine hV.if_eq_f (tgt := 106) dL_isBest_86 (by decide) c86_5 ?_
            refine hV.aload 5 dL_isBest_89 rfl ?_
            refine hV.iload 1 dL_isBest_91 rfl ?_
            refine hV.iald (j := p9) dL_isBest_93 ((To_out (by omega)).trans zput_at) (zix_nI (by omega)) (by omega) ?_
            refine hV.aload_n 9 dL_isBest_94 rfl ?_
            refine hV.iconst (v := 5) dL_isBest_95 (by decide) ?_
            refine hV.iload 1 dL_isBest_96 rfl ?_
            refine hV.imulN (a := 5) (b := p9) dL_isBest_98 ?_
            refine hV.iconst (v := 1) dL_isBest_99 (by decide) ?_
            refine hV.iaddN (a := 5 * p9) (b := 1) dL_isBest_100 ?_
            refine hV.iald (j := (5 * p9) + 1) dL_isBest_101 ((To_out (by omega)).trans ((zput_ne (by omega)).trans hk)) (zix_nI (by omega)) (by omega) ?_
            refine hV.imul dL_isBest_102 ?_
            refine hV.goto (tgt := 107) dL_isBest_103 (by decide) ?_
            refine hV.iadd dL_isBest_107 ?_
            refine hV.istore (ls2 := [(8, .int ((smN z (wv z c9) p9) + ((w3 p9) * (k ((5 * p9) + 1))))), (9, .int (nI p9)), (5, .int ((bcN z c9).1)), (6, .int ((bcN z c9).2)), (7, .int (nI c9)), (4, .ref n), (0, .ref a), (1, .ref (a + 31)), (2, .ref (a + 32)), (3, .ref (a + 33))]) dL_isBest_108 (by decide) rfl ?_
            refine hV.iinc 1 (v := nI (p9 + 1)) (ls2 := [(9, .int (nI (p9 + 1))), (8, .int ((smN z (wv z c9) p9) + ((w3 p9) * (k ((5 * p9) + 1))))), (5, .int ((bcN z c9).1)), (6, .int ((bcN z c9).2)), (7, .int (nI c9)), (4, .ref n), (0, .ref a), (1, .ref (a + 31)), (2, .ref (a + 32)), (3, .ref (a + 33))]) dL_isBest_110 rfl (nI_1 _) (by decide) rfl ?_
            refine hV.goto (tgt := 36) dL_isBest_113 (by decide) ?_
            refine hV.pick [1, 0, 2, 3, 4, 5, 6, 7, 8, 9] (ls2 := [(8, .int ((smN z (wv z c9) p9) + ((w3 p9) * (k ((5 * p9) + 1))))), (9, .int (nI (p9 + 1))), (5, .int ((bcN z c9).1)), (6, .int ((bcN z c9).2)), (7, .int (nI c9)), (4, .ref n), (0, .ref a), (1, .ref (a + 31)), (2, .ref (a + 32)), (3, .ref (a + 33))]) rfl ?_
            have es := sm_t hR.2.2 vg vk (by omega) (hw.1 p9 (by omega)) c86_5
            rw [es]
            exact ih (p9 + 1) _ (by omega)
      refine hV.pick [1, 0, 2, 3, 4, 5, 6, 7, 8, 9] (ls2 := [(8, .int 0), (9, .int 0), (5, .int ((bcN z c9).1)), (6, .int ((bcN z c9).2)), (7, .int (nI c9)), (4, .ref n), (0, .ref a), (1, .ref (a + 31)), (2, .ref (a + 32)), (3, .ref (a + 33))]) rfl ?_
      exact loop2 (7) 0 _ (by omega)
  refine hV.pick [2, 1, 0, 3, 4, 5, 6, 7] (ls2 := [(5, .int (-1)), (6, .int (-1)), (7, .int 0), (4, .ref n), (0, .ref a), (1, .ref (a + 31)), (2, .ref (a + 32)), (3, .ref (a + 33))]) rfl ?_
  exact loop (7) 0 _ _ (by omega)

